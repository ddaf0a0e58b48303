/-! a round of the clearing: T what each man pays in all, T2 what he pays in the next round -/
def CLc (np nm : Nat) (fDB fCR : Nat → Int32) (od : Nat → Nat) (ow pu : Nat → Int) : Prop :=
  np ≤ 40 ∧ nm ≤ 10 ∧ (∀ k, k < np → vp_in (fDB k) nm) ∧ (∀ k, k < np → vp_in (fCR k) nm) ∧ (∀ i, i < np → od i < np) ∧ (∀ i j, i < np → j < np → od i = od j → i = j) ∧ (∀ k, 0 ≤ ow k ∧ ow k ≤ 999) ∧ (∀ m, m < nm → 0 ≤ pu m ∧ pu m ≤ 100000000)
abbrev prF (fDB : Nat → Int32) (ow : Nat → Int) (od : Nat → Nat) (m i : Nat) : Int := preS (dbN fDB) ow od m i
abbrev rcF (fDB fCR : Nat → Int32) (ow : Nat → Int) (od : Nat → Nat) (np : Nat) (T : Nat → Int) (m : Nat) : Int := recvT (dbN fDB) (dbN fCR) ow od np T m
def T2 (fDB fCR : Nat → Int32) (ow : Nat → Int) (od : Nat → Nat) (np : Nat) (pu T : Nat → Int) (m : Nat) : Int := min (T m) (pu m + rcF fDB fCR ow od np T m)
def TmX (T U : Nat → Int) (j : Nat) : Nat → Int := fun m => if m < j then U m else T m
def frX (T U : Nat → Int) (fr : Nat → Int32) (rr : Nat) : Nat → Int32 := fun m => if fr m = 0 ∧ U m < T m then nI rr else fr m
def ClrSt (np nm : Nat) (fDB fCR : Nat → Int32) (od : Nat → Nat) (ow pu T : Nat → Int) (fr : Nat → Int32) (PD HS UN FA LO LA : Nat → Int32) : Prop :=
  (∀ i, i < np → (PD (od i)).toInt = fillP (dbN fDB) ow od (dbN fDB (od i)) (T (dbN fDB (od i))) i) ∧ (∀ m, m < nm → (HS m).toInt = pu m + rcF fDB fCR ow od np T m - T m) ∧ (∀ m, m < nm → (UN m).toInt = prF fDB ow od m np - T m) ∧ (∀ m, m < nm → FA m = fr m) ∧ (∀ m, m < nm → LO m = 0) ∧ (∀ m, m < nm → ∃ l, LA m = plI l ∧ l ≤ np ∧ T m ≤ prF fDB ow od m l)
def GRinv (np nm : Nat) (fDB fCR : Nat → Int32) (od : Nat → Nat) (ow pu T : Nat → Int) (fr : Nat → Int32) (rr mm : Nat) (ch : Int32) (PD HS UN FA LO LA : Nat → Int32) : Prop :=
  mm ≤ nm ∧ (∀ i, i < np → (PD (od i)).toInt = fillP (dbN fDB) ow od (dbN fDB (od i)) (TmX T (T2 fDB fCR ow od np pu T) mm (dbN fDB (od i))) i) ∧
  (∀ m, m < nm → (HS m).toInt = pu m + rcF fDB fCR ow od np T m - TmX T (T2 fDB fCR ow od np pu T) mm m) ∧
  (∀ m, m < nm → (UN m).toInt = prF fDB ow od m np - TmX T (T2 fDB fCR ow od np pu T) mm m) ∧
  (∀ m, m < nm → FA m = if m < mm then frX T (T2 fDB fCR ow od np pu T) fr rr m else fr m) ∧
  (∀ m, m < nm → (LO m).toInt = rcF fDB fCR ow od np T m - rcF fDB fCR ow od np (TmX T (T2 fDB fCR ow od np pu T) mm) m) ∧
  (∀ m, m < nm → ∃ l, LA m = plI l ∧ l ≤ np ∧ TmX T (T2 fDB fCR ow od np pu T) mm m ≤ prF fDB ow od m l) ∧
  ((ch = 1 ∧ ∃ m, m < mm ∧ T2 fDB fCR ow od np pu T m < T m) ∨ (ch = 0 ∧ ∀ m, m < mm → T2 fDB fCR ow od np pu T m = T m))
section GR
variable {np nm : Nat} {fDB fCR : Nat → Int32} {od : Nat → Nat} {ow pu T : Nat → Int} {fr : Nat → Int32} {rr mm : Nat} {ch : Int32} {PD HS UN FA LO LA : Nat → Int32}
theorem rc_bound (C : CLc np nm fDB fCR od ow pu) (U : Nat → Int) (m : Nat) : 0 ≤ rcF fDB fCR ow od np U m ∧ rcF fDB fCR ow od np U m ≤ 39960 := by
  obtain ⟨hnp, hnm, hdb, hcr, hod, hinj, hw, hpu⟩ := C
  refine ⟨recvT_nonneg (fun k => (hw k).1) np U m, ?_⟩
  have h : rcF fDB fCR ow od np U m ≤ np * 999 := sI_bound (fun k _ => by
    split
    · have h1 := fillP_le (db := dbN fDB) (od := od) (fun k => (hw k).1) (dbN fDB (od k)) (U (dbN fDB (od k))) k
      have h2 := (hw (od k)).2
      omega
    · omega)
  omega
theorem pr_bound (C : CLc np nm fDB fCR od ow pu) (m : Nat) {i : Nat} (hi : i ≤ np) : 0 ≤ prF fDB ow od m i ∧ prF fDB ow od m i ≤ 39960 := by
  obtain ⟨hnp, hnm, hdb, hcr, hod, hinj, hw, hpu⟩ := C
  refine ⟨preS_nonneg (fun k => (hw k).1) m i, ?_⟩
  have h : prF fDB ow od m i ≤ i * 999 := sI_bound (fun k _ => by
    split
    · exact (hw (od k)).2
    · omega)
  omega
theorem T2_bound (C : CLc np nm fDB fCR od ow pu) (hT : ∀ m, m < nm → 0 ≤ T m ∧ T m ≤ prF fDB ow od m np) : ∀ m, m < nm → 0 ≤ T2 fDB fCR ow od np pu T m ∧ T2 fDB fCR ow od np pu T m ≤ prF fDB ow od m np := by
  intro m hm
  have h1 := hT m hm
  have h2 := rc_bound C T m
  have h3 := C.2.2.2.2.2.2.2 m hm
  unfold T2
  omega
theorem TmX_0 (T U : Nat → Int) : TmX T U 0 = T := by funext m; simp [TmX]
theorem TmX_all {T U : Nat → Int} {n m : Nat} (h : m < n) : TmX T U n m = U m := by simp [TmX, h]
theorem TmX_bd (C : CLc np nm fDB fCR od ow pu) (hT : ∀ m, m < nm → 0 ≤ T m ∧ T m ≤ prF fDB ow od m np) (j : Nat) : ∀ m, m < nm → 0 ≤ TmX T (T2 fDB fCR ow od np pu T) j m ∧ TmX T (T2 fDB fCR ow od np pu T) j m ≤ T m := by
  intro m hm
  have h1 := hT m hm
  have h2 := T2_bound C hT m hm
  have h3 : T2 fDB fCR ow od np pu T m ≤ T m := by unfold T2; omega
  unfold TmX
  split <;> omega
theorem GR_entry (C : CLc np nm fDB fCR od ow pu) (h : ClrSt np nm fDB fCR od ow pu T fr PD HS UN FA LO LA) : GRinv np nm fDB fCR od ow pu T fr rr 0 0 PD HS UN FA LO LA := by
  obtain ⟨h1, h2, h3, h4, h5, h6⟩ := h
  unfold GRinv
  rw [TmX_0]
  refine ⟨Nat.zero_le _, h1, h2, h3, fun m hm => by rw [if_neg (Nat.not_lt_zero _)]; exact h4 m hm, fun m hm => ?_, h6, Or.inr ⟨rfl, fun m hm => absurd hm (Nat.not_lt_zero _)⟩⟩
  rw [h5 m hm, ti0]; omega
theorem GR_skip (C : CLc np nm fDB fCR od ow pu) (I : GRinv np nm fDB fCR od ow pu T fr rr mm ch PD HS UN FA LO LA) (hm : mm < nm) (h : ¬ HS mm < 0) : GRinv np nm fDB fCR od ow pu T fr rr (mm + 1) ch PD HS UN FA LO LA := by
  obtain ⟨a0, a1, a2, a3, a4, a5, a6, a7⟩ := I
  have hh := a2 mm hm
  have e0 : TmX T (T2 fDB fCR ow od np pu T) mm mm = T mm := by simp [TmX]
  rw [i32_lt, ti0, hh, e0] at h
  have eT : T2 fDB fCR ow od np pu T mm = T mm := by unfold T2; omega
  have e : TmX T (T2 fDB fCR ow od np pu T) (mm + 1) = TmX T (T2 fDB fCR ow od np pu T) mm := by
    funext m
    unfold TmX
    by_cases q : m = mm
    · subst q; simp [eT]
    · by_cases q2 : m < mm
      · rw [if_pos q2, if_pos (by omega)]
      · rw [if_neg q2, if_neg (by omega)]
  unfold GRinv
  rw [e]
  refine ⟨hm, a1, a2, a3, fun m hm' => ?_, a5, a6, ?_⟩
  · rw [a4 m hm']
    by_cases q : m = mm
    · subst q
      rw [if_neg (Nat.lt_irrefl _), if_pos (Nat.lt_succ_self _)]
      unfold frX
      rw [if_neg (fun z => by omega)]
    · by_cases q2 : m < mm
      · rw [if_pos q2, if_pos (by omega)]
      · rw [if_neg q2, if_neg (by omega)]
  · rcases a7 with ⟨c1, m, c2, c3⟩ | ⟨c1, c2⟩
    · exact Or.inl ⟨c1, m, by omega, c3⟩
    · refine Or.inr ⟨c1, fun m hm' => ?_⟩
      rcases Nat.lt_or_ge m mm with q | q
      · exact c2 m q
      · have e2 : m = mm := by omega
        rw [e2]; exact eT
/-- what payLess wants of the state at a man who is short -/
theorem GR_short (C : CLc np nm fDB fCR od ow pu) (hT : ∀ m, m < nm → 0 ≤ T m ∧ T m ≤ prF fDB ow od m np) (I : GRinv np nm fDB fCR od ow pu T fr rr mm ch PD HS UN FA LO LA) (hm : mm < nm) (h : HS mm < 0) :
    PLc np nm mm fDB fCR od ow (T mm) (T2 fDB fCR ow od np pu T mm) ∧ (∀ i, i < np → dbN fDB (od i) = mm → (PD (od i)).toInt = fillP (dbN fDB) ow od mm (T mm) i) ∧ (-(HS mm)).toInt = T mm - T2 fDB fCR ow od np pu T mm ∧
    (∃ l, LA mm = plI l ∧ l ≤ np ∧ T mm ≤ preS (dbN fDB) ow od mm l) ∧ (∀ c, c < nm → 0 ≤ (LO c).toInt ∧ (LO c).toInt ≤ 1000000) := by
  obtain ⟨a0, a1, a2, a3, a4, a5, a6, a7⟩ := I
  have hh := a2 mm hm
  have e0 : TmX T (T2 fDB fCR ow od np pu T) mm mm = T mm := by simp [TmX]
  rw [e0] at hh
  rw [i32_lt, ti0, hh] at h
  have eT : T2 fDB fCR ow od np pu T mm = pu mm + rcF fDB fCR ow od np T mm := by unfold T2; omega
  have hb := T2_bound C hT mm hm
  have hr := rc_bound C T mm
  have hp := C.2.2.2.2.2.2.2 mm hm
  have hTm := hT mm hm
  have hpr := pr_bound C mm (Nat.le_refl np)
  obtain ⟨hnp, hnm, hdb, hcr, hod, hinj, hw, hpu⟩ := id C
  refine ⟨⟨hnp, hnm, hm, hdb, hcr, hod, hinj, hw, hb.1, by omega⟩, fun i hi hd => ?_, ?_, ?_, fun c hc => ?_⟩
  · have := a1 i hi
    rw [hd, e0] at this
    exact this
  · rw [i32_neg (by omega), hh]; omega
  · have := a6 mm hm
    rw [e0] at this
    exact this
  · have h1 := a5 c hc
    have h2 := rc_bound C T c
    have h3 := rc_bound C (TmX T (T2 fDB fCR ow od np pu T) mm) c
    have h4 := recvT_mono (cr := dbN fCR) (fun k => (hw k).1) (nm := nm) (n := np) (db := dbN fDB) (od := od) (fun i hi => ix_lt (hdb _ (hod i hi))) (fun m hm' => (TmX_bd C hT mm m hm').2) c
    have h5 : rcF fDB fCR ow od np (TmX T (T2 fDB fCR ow od np pu T) mm) c ≤ rcF fDB fCR ow od np T c := h4
    omega
theorem GR_pay (C : CLc np nm fDB fCR od ow pu) (hT : ∀ m, m < nm → 0 ≤ T m ∧ T m ≤ prF fDB ow od m np) (I : GRinv np nm fDB fCR od ow pu T fr rr mm ch PD HS UN FA LO LA) (hm : mm < nm) (h : HS mm < 0) {gPD gHS gUN gLO gLA gFA : Nat → Int32}
    (p1 : ∀ i, i < np → dbN fDB (od i) = mm → (gPD (od i)).toInt = fillP (dbN fDB) ow od mm (T2 fDB fCR ow od np pu T mm) i) (p2 : ∀ k, k < np → ¬ dbN fDB k = mm → gPD k = PD k) (p3 : ∀ c, c < nm → (gLO c).toInt = (LO c).toInt + dropS fDB fCR od ow mm (T mm) (T2 fDB fCR ow od np pu T mm) c np)
    (p4 : ∀ m, m ≠ mm → gLA m = LA m) (p5 : ∃ l, gLA mm = plI l ∧ l ≤ np ∧ T2 fDB fCR ow od np pu T mm ≤ preS (dbN fDB) ow od mm l) (p6 : gHS = upd HS mm (HS mm + -(HS mm))) (p7 : gUN = upd UN mm (UN mm + -(HS mm))) (p8 : gFA = upd FA mm (if FA mm = 0 then nI rr else FA mm)) :
    GRinv np nm fDB fCR od ow pu T fr rr (mm + 1) 1 gPD gHS gUN gFA gLO gLA := by
  obtain ⟨q1, q2, q3, q4, q5⟩ := GR_short C hT I hm h
  obtain ⟨a0, a1, a2, a3, a4, a5, a6, a7⟩ := I
  have hh := a2 mm hm
  have e0 : TmX T (T2 fDB fCR ow od np pu T) mm mm = T mm := by simp [TmX]
  have e1 : TmX T (T2 fDB fCR ow od np pu T) (mm + 1) mm = T2 fDB fCR ow od np pu T mm := by simp [TmX]
  have e2 : ∀ m, m ≠ mm → TmX T (T2 fDB fCR ow od np pu T) (mm + 1) m = TmX T (T2 fDB fCR ow od np pu T) mm m := by
    intro m hne
    unfold TmX
    by_cases q : m < mm
    · rw [if_pos q, if_pos (by omega)]
    · rw [if_neg q, if_neg (by omega)]
  have hlt := q1.2.2.2.2.2.2.2.2.2
  have hb := T2_bound C hT mm hm
  have hTm := hT mm hm
  have hpr := pr_bound C mm (Nat.le_refl np)
  have hr := rc_bound C T mm
  have hpu := C.2.2.2.2.2.2.2 mm hm
  obtain ⟨hnp, hnm, hdb, hcr, hod, hinj, hw, hpu'⟩ := id C
  rw [e0] at hh
  refine ⟨hm, fun i hi => ?_, fun m hm' => ?_, fun m hm' => ?_, fun m hm' => ?_, fun m hm' => ?_, fun m hm' => ?_, Or.inl ⟨rfl, mm, Nat.lt_succ_self _, hlt⟩⟩
  · by_cases q : dbN fDB (od i) = mm
    · rw [p1 i hi q, q, e1]
    · rw [p2 _ (hod i hi) q, a1 i hi, e2 _ q]
  · by_cases q : m = mm
    · subst q
      rw [p6, pk_us, i32_add (by omega) (by omega), e1]
      have : T2 fDB fCR ow od np pu T m = pu m + rcF fDB fCR ow od np T m := by
        rw [q3] at *
        unfold T2 at hlt ⊢
        omega
      omega
    · rw [p6, pk_un q, a2 m hm', e2 m q]
  · by_cases q : m = mm
    · subst q
      have hu := a3 m hm'
      rw [e0] at hu
      rw [p7, pk_us, i32_add (by omega) (by omega), e1]
      omega
    · rw [p7, pk_un q, a3 m hm', e2 m q]
  · by_cases q : m = mm
    · subst q
      have hf := a4 m hm'
      rw [if_neg (Nat.lt_irrefl _)] at hf
      rw [p8, pk_us, if_pos (Nat.lt_succ_self _), hf]
      unfold frX
      by_cases z : fr m = 0
      · rw [if_pos z, if_pos ⟨z, hlt⟩]
      · rw [if_neg z, if_neg (fun y => z y.1)]
    · rw [p8, pk_un q, a4 m hm']
      by_cases q2 : m < mm
      · rw [if_pos q2, if_pos (by omega)]
      · rw [if_neg q2, if_neg (by omega)]
  · rw [p3 m hm', a5 m hm']
    have e3 : rcF fDB fCR ow od np (TmX T (T2 fDB fCR ow od np pu T) mm) m - rcF fDB fCR ow od np (TmX T (T2 fDB fCR ow od np pu T) (mm + 1)) m = dropS fDB fCR od ow mm (T mm) (T2 fDB fCR ow od np pu T mm) m np := by
      unfold rcF recvT dropS
      rw [← sI_sub]
      refine sI_congr (fun i hi => ?_)
      by_cases q : dbN fDB (od i) = mm
      · rw [q, e0, e1]
        by_cases z : dbN fCR (od i) = m
        · rw [if_pos z, if_pos z, if_pos ⟨rfl, z⟩]
        · rw [if_neg z, if_neg z, if_neg (fun y => z y.2)]; rfl
      · rw [e2 _ q, Int.sub_self, if_neg (fun y => q y.1)]
    omega
  · by_cases q : m = mm
    · subst q; rw [e1]; exact p5
    · rw [p4 m q, e2 m q]; exact a6 m hm'
theorem GR_end (C : CLc np nm fDB fCR od ow pu) (hT : ∀ m, m < nm → 0 ≤ T m ∧ T m ≤ prF fDB ow od m np) (I : GRinv np nm fDB fCR od ow pu T fr rr nm ch PD HS UN FA LO LA) {gHS gLO : Nat → Int32} (h1 : gHS = fil (fun m => HS m - LO m) HS nm) (h2 : gLO = fil (fun _ => 0) LO nm) :
    ClrSt np nm fDB fCR od ow pu (T2 fDB fCR ow od np pu T) (frX T (T2 fDB fCR ow od np pu T) fr rr) PD gHS UN FA gLO LA := by
  obtain ⟨a0, a1, a2, a3, a4, a5, a6, a7⟩ := I
  have hd : ∀ i, i < np → dbN fDB (od i) < nm := fun i hi => ix_lt (C.2.2.1 _ (C.2.2.2.2.1 i hi))
  have e : ∀ m, m < nm → TmX T (T2 fDB fCR ow od np pu T) nm m = T2 fDB fCR ow od np pu T m := fun m hm => TmX_all hm
  have er : ∀ m, rcF fDB fCR ow od np (TmX T (T2 fDB fCR ow od np pu T) nm) m = rcF fDB fCR ow od np (T2 fDB fCR ow od np pu T) m := fun m => recvT_congr hd e m
  refine ⟨fun i hi => ?_, fun m hm => ?_, fun m hm => ?_, fun m hm => ?_, fun m hm => ?_, fun m hm => ?_⟩
  · rw [a1 i hi, e _ (hd i hi)]
  · rw [h1]
    simp only [fil, if_pos hm]
    have b1 := a2 m hm
    have b2 := a5 m hm
    rw [e m hm] at b1
    rw [er] at b2
    have r1 := rc_bound C T m
    have r2 := rc_bound C (T2 fDB fCR ow od np pu T) m
    have r3 := C.2.2.2.2.2.2.2 m hm
    have r4 := T2_bound C hT m hm
    have r5 := pr_bound C m (Nat.le_refl np)
    rw [i32_sub (by omega) (by omega)]; omega
  · rw [a3 m hm, e m hm]
  · rw [a4 m hm, if_pos hm]
  · rw [h2]; simp only [fil, if_pos hm]
  · have := a6 m hm
    rw [e m hm] at this
    exact this
end GR

/-! the whole clearing -/
abbrev TRF (fDB fCR : Nat → Int32) (ow : Nat → Int) (od : Nat → Nat) (np : Nat) (pu : Nat → Int) : Nat → Nat → Int := TR (dbN fDB) (dbN fCR) ow od np pu
theorem T2_TR (fDB fCR : Nat → Int32) (ow : Nat → Int) (od : Nat → Nat) (np : Nat) (pu : Nat → Int) (r : Nat) : T2 fDB fCR ow od np pu (TRF fDB fCR ow od np pu r) = TRF fDB fCR ow od np pu (r + 1) := by funext m; rfl
theorem frX_failR (T : Nat → Nat → Int) (r : Nat) : frX (T r) (T (r + 1)) (fun m => failR T m r) (r + 1) = fun m => failR T m (r + 1) := by funext m; rfl
theorem fil_const_at {v : Int32} {g : Nat → Int32} {n m : Nat} (h : m < n) : fil (fun _ => v) g n m = v := by simp [fil, h]
section WK
variable {np nm : Nat} {fDB fCR : Nat → Int32} {od : Nat → Nat} {ow pu : Nat → Int}
theorem TRF_bound (C : CLc np nm fDB fCR od ow pu) (r : Nat) : ∀ m, m < nm → 0 ≤ TRF fDB fCR ow od np pu r m ∧ TRF fDB fCR ow od np pu r m ≤ prF fDB ow od m np := by
  intro m hm
  have hw := C.2.2.2.2.2.2.1
  exact ⟨TR_nonneg (fun k => (hw k).1) (fun u hu => (C.2.2.2.2.2.2.2 u hu).1) r m hm, TR_le np pu r m⟩
theorem sI_addF {f g : Nat → Int} : ∀ {n : Nat}, sI (fun k => f k + g k) n = sI f n + sI g n
  | 0 => rfl
  | n + 1 => by have := sI_addF (f := f) (g := g) (n := n); simp only [sI]; omega
theorem sI_swap {f : Nat → Nat → Int} (n : Nat) : ∀ k, sI (fun m => sI (fun i => f m i) n) k = sI (fun i => sI (fun m => f m i) k) n
  | 0 => by
    have : ∀ n, sI (fun i => sI (fun m => f m i) 0) n = 0 := by
      intro n
      induction n with
      | zero => rfl
      | succ n ih => show sI _ n + 0 = 0; rw [ih]; rfl
    rw [this]; rfl
  | k + 1 => by
    show sI _ k + sI (fun i => f k i) n = _
    rw [sI_swap n k]
    exact (sI_addF (f := fun i => sI (fun m => f m i) k) (g := fun i => f k i) (n := n)).symm
theorem sI_one {c : Int} {a : Nat} : ∀ {k : Nat}, sI (fun m => if a = m then c else 0) k = if a < k then c else 0
  | 0 => rfl
  | k + 1 => by
    have h := sI_one (c := c) (a := a) (k := k)
    simp only [sI, h]
    by_cases q : a < k
    · rw [if_pos q, if_neg (by omega), if_pos (by omega)]; omega
    · by_cases q2 : a = k
      · rw [if_neg q, if_pos q2, if_pos (by omega)]; omega
      · rw [if_neg q, if_neg q2, if_neg (by omega)]; rfl
theorem tot_all (C : CLc np nm fDB fCR od ow pu) : sI (TRF fDB fCR ow od np pu 0) nm ≤ 39960 := by
  obtain ⟨hnp, hnm, hdb, hcr, hod, hinj, hw, hpu⟩ := C
  have e : sI (TRF fDB fCR ow od np pu 0) nm = sI (fun i => sI (fun m => if dbN fDB (od i) = m then ow (od i) else 0) nm) np := sI_swap (f := fun m i => if dbN fDB (od i) = m then ow (od i) else 0) np nm
  rw [e]
  have h : sI (fun i => sI (fun m => if dbN fDB (od i) = m then ow (od i) else 0) nm) np ≤ np * 999 := sI_bound (fun i hi => by
    rw [sI_one]
    have := hw (od i)
    split <;> omega)
  omega
/-- as many rounds as change something are fewer than 39961 -/
theorem rounds_few (C : CLc np nm fDB fCR od ow pu) {r : Nat} (h : ∀ q, q < r → ∃ m, m < nm ∧ TRF fDB fCR ow od np pu (q + 1) m < TRF fDB fCR ow od np pu q m) : r ≤ 39960 := by
  have h1 := sum_drop (T := TRF fDB fCR ow od np pu) (nm := nm) (fun r m => TR_dec np pu r m) r h
  have h2 := tot_all C
  have h3 : 0 ≤ sI (TRF fDB fCR ow od np pu r) nm := sI_nonneg (fun m hm => (TRF_bound C r m hm).1)
  omega
/-- sums over papers are sums over places -/
theorem sI_row (rk : Nat → Int32) (g : Nat → Int) (r : Nat) : ∀ n, (rowO rk r n).foldr (fun k a => g k + a) 0 = sI (fun k => if rk k = nI r then g k else 0) n
  | 0 => rfl
  | n + 1 => by
    have h := sI_row rk g r n
    simp only [rowO, sI]
    split
    · rw [List.foldr_append, ← h]
      have : ∀ (L : List Nat) (c : Int), L.foldr (fun k a => g k + a) c = L.foldr (fun k a => g k + a) 0 + c := by
        intro L c
        induction L with
        | nil => simp
        | cons x L ih => simp only [List.foldr_cons, ih]; omega
      rw [this]; simp
    · rw [h]; omega
theorem foldr_app (g : Nat → Int) (L M : List Nat) : (L ++ M).foldr (fun k a => g k + a) 0 = L.foldr (fun k a => g k + a) 0 + M.foldr (fun k a => g k + a) 0 := by
  induction L with
  | nil => simp
  | cons x L ih => simp only [List.cons_append, List.foldr_cons, ih]; omega
theorem foldr_places (g : Nat → Int) : ∀ (L : List Nat), L.foldr (fun k a => g k + a) 0 = sI (fun i => g (L.getD i 0)) L.length := by
  intro L
  have key : ∀ n, n ≤ L.length → (L.take n).foldr (fun k a => g k + a) 0 = sI (fun i => g (L.getD i 0)) n := by
    intro n
    induction n with
    | zero => intro _; simp [sI]
    | succ n ih =>
      intro hn
      rw [List.take_succ, foldr_app, ih (by omega)]
      have e : L[n]? = some (L.getD n 0) := by
        rw [List.getD_eq_getElem?_getD, List.getElem?_eq_getElem (by omega)]; rfl
      rw [e]
      simp [sI]
  have := key L.length (Nat.le_refl _)
  rw [List.take_length] at this
  exact this
/-- every rank is one of the four -/
def rkOk (rk : Nat → Int32) (n : Nat) : Prop := ∀ k, k < n → rk k = nI 0 ∨ rk k = nI 1 ∨ rk k = nI 2 ∨ rk k = nI 3
theorem inRk_4 {rk : Nat → Int32} {n k : Nat} (h : rkOk rk n) (hk : k < n) : inRk rk k 4 = 1 := by
  have h1 := inRk_le rk k 4 (Nat.le_refl _)
  rcases h k hk with q | q | q | q <;> simp only [inRk] at h1 ⊢ <;> rw [if_pos q] at h1 ⊢ <;> omega
theorem ordO_full {rk : Nat → Int32} {n : Nat} (h : rkOk rk n) : (ordO rk n 4).length = n := by
  rw [ordO_eq]
  have : ∀ m, m ≤ n → sN (fun k => inRk rk k 4) m = m := by
    intro m
    induction m with
    | zero => intro _; rfl
    | succ m ih => intro hm; show sN _ m + inRk rk m 4 = m + 1; rw [ih (by omega), inRk_4 h (by omega)]
  exact this n (Nat.le_refl _)
abbrev odF (rk : Nat → Int32) (n : Nat) : Nat → Nat := fun i => (ordO rk n 4).getD i 0
theorem sI_places {rk : Nat → Int32} {n : Nat} (h : rkOk rk n) (g : Nat → Int) : sI (fun i => g (odF rk n i)) n = sI g n := by
  have e1 := foldr_places g (ordO rk n 4)
  rw [ordO_full h] at e1
  have e2 : (ordO rk n 4).foldr (fun k a => g k + a) 0 = sI g n := by
    have : ordO rk n 4 = ((([] ++ rowO rk 0 n) ++ rowO rk 1 n) ++ rowO rk 2 n) ++ rowO rk 3 n := rfl
    rw [this, foldr_app, foldr_app, foldr_app, foldr_app, sI_row, sI_row, sI_row, sI_row]
    have key : ∀ m, m ≤ n → sI (fun k => if rk k = nI 0 then g k else 0) m + sI (fun k => if rk k = nI 1 then g k else 0) m + sI (fun k => if rk k = nI 2 then g k else 0) m + sI (fun k => if rk k = nI 3 then g k else 0) m = sI g m := by
      intro m
      induction m with
      | zero => intro _; rfl
      | succ m ih =>
        intro hm
        have h1 := ih (by omega)
        have d01 : ¬ nI 0 = nI 1 := by decide
        have d02 : ¬ nI 0 = nI 2 := by decide
        have d03 : ¬ nI 0 = nI 3 := by decide
        have d12 : ¬ nI 1 = nI 2 := by decide
        have d13 : ¬ nI 1 = nI 3 := by decide
        have d23 : ¬ nI 2 = nI 3 := by decide
        simp only [sI]
        rcases h m (by omega) with q | q | q | q
        · rw [q, if_pos rfl, if_neg d01, if_neg d02, if_neg d03]; omega
        · rw [q, if_neg (fun z => d01 z.symm), if_pos rfl, if_neg d12, if_neg d13]; omega
        · rw [q, if_neg (fun z => d02 z.symm), if_neg (fun z => d12 z.symm), if_pos rfl, if_neg d23]; omega
        · rw [q, if_neg (fun z => d03 z.symm), if_neg (fun z => d13 z.symm), if_neg (fun z => d23 z.symm), if_pos rfl]; omega
    have := key n (Nat.le_refl _)
    simp only [List.foldr_nil]; omega
  rw [← e1, e2]
theorem rowO_lt {rk : Nat → Int32} {r : Nat} : ∀ {n : Nat}, ∀ q ∈ rowO rk r n, q < n
  | 0, q, h => by simp [rowO] at h
  | n + 1, q, h => by
    simp only [rowO] at h
    split at h
    · rcases List.mem_append.mp h with z | z
      · have := rowO_lt q z; omega
      · simp at z; omega
    · have := rowO_lt q h; omega
theorem ordO_lt_n {rk : Nat → Int32} {n : Nat} : ∀ {r : Nat}, ∀ q ∈ ordO rk n r, q < n
  | 0, q, h => by simp [ordO] at h
  | r + 1, q, h => by
    simp only [ordO] at h
    rcases List.mem_append.mp h with z | z
    · exact ordO_lt_n q z
    · exact rowO_lt q z
theorem odF_lt {rk : Nat → Int32} {n i : Nat} (h : rkOk rk n) (hi : i < n) : odF rk n i < n := by
  have hl := ordO_full h
  have e : (ordO rk n 4)[i]? = some (odF rk n i) := by
    show _ = some ((ordO rk n 4).getD i 0)
    rw [List.getD_eq_getElem?_getD, List.getElem?_eq_getElem (by omega)]; rfl
  exact ordO_lt_n _ (List.mem_of_getElem? e)
theorem odF_inj {rk : Nat → Int32} {n : Nat} (h : rkOk rk n) : ∀ i j, i < n → j < n → odF rk n i = odF rk n j → i = j := by
  intro i j hi hj e
  by_cases q : i = j
  · exact q
  · exfalso
    have h1 := sI_places h (fun k => if k = odF rk n i then 1 else 0)
    have h2 : sI (fun k => if k = odF rk n i then (1 : Int) else 0) n ≤ 1 := by
      have : ∀ m, sI (fun k => if k = odF rk n i then (1 : Int) else 0) m = if odF rk n i < m then 1 else 0 := by
        intro m
        have := sI_one (c := 1) (a := odF rk n i) (k := m)
        rw [← this]
        exact sI_congr (fun k _ => by
          by_cases z : k = odF rk n i
          · rw [if_pos z, if_pos z.symm]
          · rw [if_neg z, if_neg (fun y => z y.symm)])
      rw [this]; split <;> omega
    rw [← h1] at h2
    have h3 : ∀ a b : Nat, a < b → b < n → odF rk n a = odF rk n i → odF rk n b = odF rk n i → 2 ≤ sI (fun k => if odF rk n k = odF rk n i then (1 : Int) else 0) n := by
      intro a b hab hb ea eb
      have pos : ∀ k, (0 : Int) ≤ (if odF rk n k = odF rk n i then 1 else 0) := fun k => by split <;> omega
      have s1 := sI_mono pos (show b + 1 ≤ n from hb)
      have s2 := sI_mono pos (show a + 1 ≤ b from hab)
      have s3 := sI_mono pos (Nat.zero_le a)
      simp only [sI] at s1 s2 s3
      rw [if_pos eb] at s1
      rw [if_pos ea] at s2
      omega
    rcases Nat.lt_or_gt_of_ne q with z | z
    · have := h3 i j z hj rfl e.symm; omega
    · have := h3 j i z hi e.symm rfl; omega
end WK
def owF (cu : Nat → Int32) (sp bf : Int32) (lf rk dy : Nat → Int32) (np : Nat) : Nat → Int := fun k => if k < np then (dueF cu sp bf lf rk dy k).toInt else 0
theorem odF_holds {OR rk : Nat → Int32} {n : Nat} (h : rkOk rk n) (hO : holdsO OR (ordO rk n 4)) : ∀ i, i < n → OR i = nI (odF rk n i) := by
  intro i hi
  have hl := ordO_full h
  refine hO i _ ?_
  show _ = some ((ordO rk n 4).getD i 0)
  rw [List.getD_eq_getElem?_getD, List.getElem?_eq_getElem (by omega)]; rfl
theorem plI_last : ∀ n : Nat, nI n - 1 = plI n
  | 0 => by decide
  | n + 1 => nI_pred n
section WK2
variable {np nm : Nat} {fDB fCR : Nat → Int32} {od : Nat → Nat} {ow pu : Nat → Int} {q : Nat} {ch rd : Int32} {PD HS UN FA LO LA : Nat → Int32}
theorem ClrSt_congr (C : CLc np nm fDB fCR od ow pu) {T U : Nat → Int} {fr gr : Nat → Int32} (hT : ∀ m, m < nm → T m = U m) (hf : ∀ m, m < nm → fr m = gr m) (h : ClrSt np nm fDB fCR od ow pu T fr PD HS UN FA LO LA) : ClrSt np nm fDB fCR od ow pu U gr PD HS UN FA LO LA := by
  obtain ⟨h1, h2, h3, h4, h5, h6⟩ := h
  have hd : ∀ i, i < np → dbN fDB (od i) < nm := fun i hi => ix_lt (C.2.2.1 _ (C.2.2.2.2.1 i hi))
  have er : ∀ m, rcF fDB fCR ow od np T m = rcF fDB fCR ow od np U m := fun m => recvT_congr hd hT m
  refine ⟨fun i hi => ?_, fun m hm => ?_, fun m hm => ?_, fun m hm => ?_, h5, fun m hm => ?_⟩
  · rw [h1 i hi, hT _ (hd i hi)]
  · rw [h2 m hm, er, hT m hm]
  · rw [h3 m hm, hT m hm]
  · rw [h4 m hm, hf m hm]
  · rw [← hT m hm]; exact h6 m hm
def WKinv (np nm : Nat) (fDB fCR : Nat → Int32) (od : Nat → Nat) (ow pu : Nat → Int) (q : Nat) (ch rd : Int32) (PD HS UN FA LO LA : Nat → Int32) : Prop :=
  ClrSt np nm fDB fCR od ow pu (TRF fDB fCR ow od np pu q) (fun m => failR (TRF fDB fCR ow od np pu) m q) PD HS UN FA LO LA ∧
  ((ch = 1 ∧ rd = nI q ∧ ∀ r, r < q → ∃ m, m < nm ∧ TRF fDB fCR ow od np pu (r + 1) m < TRF fDB fCR ow od np pu r m) ∨ (ch = 0 ∧ ∃ R, q = R + 1 ∧ rd = nI R ∧ isR nm (TRF fDB fCR ow od np pu) R))
theorem WK_few (C : CLc np nm fDB fCR od ow pu) (I : WKinv np nm fDB fCR od ow pu q ch rd PD HS UN FA LO LA) : (ch = 1 ∧ q ≤ 39960) ∨ (ch = 0 ∧ q ≤ 39961) := by
  rcases I.2 with ⟨h1, h2, h3⟩ | ⟨h1, R, h2, h3, h4⟩
  · exact Or.inl ⟨h1, rounds_few C h3⟩
  · have := rounds_few C h4.1
    exact Or.inr ⟨h1, by omega⟩
theorem WK_ch (I : WKinv np nm fDB fCR od ow pu q ch rd PD HS UN FA LO LA) (h : ¬ ch = 0) : ch = 1 := by
  rcases I.2 with ⟨h1, h2, h3⟩ | ⟨h1, h2⟩
  · exact h1
  · exact absurd h1 h
theorem WK_same (I : WKinv np nm fDB fCR od ow pu q ch rd PD HS UN FA LO LA) (hc : ch = 1) {r : Int32} {gPD gHS gUN gFA gLO gLA : Nat → Int32}
    (h : ClrSt np nm fDB fCR od ow pu (T2 fDB fCR ow od np pu (TRF fDB fCR ow od np pu q)) (frX (TRF fDB fCR ow od np pu q) (T2 fDB fCR ow od np pu (TRF fDB fCR ow od np pu q)) (fun m => failR (TRF fDB fCR ow od np pu) m q) (q + 1)) gPD gHS gUN gFA gLO gLA ∧
      ((r = 1 ∧ ∃ m, m < nm ∧ T2 fDB fCR ow od np pu (TRF fDB fCR ow od np pu q) m < TRF fDB fCR ow od np pu q m) ∨ (r = 0 ∧ ∀ m, m < nm → T2 fDB fCR ow od np pu (TRF fDB fCR ow od np pu q) m = TRF fDB fCR ow od np pu q m))) (hr : r = 0) :
    WKinv np nm fDB fCR od ow pu (q + 1) r rd gPD gHS gUN gFA gLO gLA := by
  obtain ⟨h1, h2⟩ := h
  rw [T2_TR] at h1 h2
  rw [frX_failR] at h1
  refine ⟨h1, Or.inr ⟨hr, q, rfl, ?_⟩⟩
  rcases I.2 with ⟨c1, c2, c3⟩ | ⟨c1, c2⟩
  · refine ⟨c2, c3, ?_⟩
    rcases h2 with ⟨z, _⟩ | ⟨_, z⟩
    · rw [hr] at z; exact absurd z (by decide)
    · exact z
  · rw [c1] at hc; exact absurd hc (by decide)
theorem WK_more (I : WKinv np nm fDB fCR od ow pu q ch rd PD HS UN FA LO LA) (hc : ch = 1) {r : Int32} {gPD gHS gUN gFA gLO gLA : Nat → Int32}
    (h : ClrSt np nm fDB fCR od ow pu (T2 fDB fCR ow od np pu (TRF fDB fCR ow od np pu q)) (frX (TRF fDB fCR ow od np pu q) (T2 fDB fCR ow od np pu (TRF fDB fCR ow od np pu q)) (fun m => failR (TRF fDB fCR ow od np pu) m q) (q + 1)) gPD gHS gUN gFA gLO gLA ∧
      ((r = 1 ∧ ∃ m, m < nm ∧ T2 fDB fCR ow od np pu (TRF fDB fCR ow od np pu q) m < TRF fDB fCR ow od np pu q m) ∨ (r = 0 ∧ ∀ m, m < nm → T2 fDB fCR ow od np pu (TRF fDB fCR ow od np pu q) m = TRF fDB fCR ow od np pu q m))) (hr : ¬ r = 0) :
    WKinv np nm fDB fCR od ow pu (q + 1) r (nI (q + 1)) gPD gHS gUN gFA gLO gLA := by
  obtain ⟨h1, h2⟩ := h
  rw [T2_TR] at h1 h2
  rw [frX_failR] at h1
  rcases h2 with ⟨z, m, hm, hlt⟩ | ⟨z, _⟩
  · refine ⟨h1, Or.inl ⟨z, rfl, fun r' hr' => ?_⟩⟩
    rcases Nat.lt_or_ge r' q with y | y
    · rcases I.2 with ⟨c1, c2, c3⟩ | ⟨c1, c2⟩
      · exact c3 r' y
      · rw [c1] at hc; exact absurd hc (by decide)
    · have e : r' = q := by omega
      subst e; exact ⟨m, hm, hlt⟩
  · exact absurd z hr
theorem WK_exit (C : CLc np nm fDB fCR od ow pu) (I : WKinv np nm fDB fCR od ow pu q ch rd PD HS UN FA LO LA) (h : ch = 0 ∨ 39961 ≤ q) :
    ∃ R, rd = nI R ∧ isR nm (TRF fDB fCR ow od np pu) R ∧ R ≤ 39960 ∧ ClrSt np nm fDB fCR od ow pu (TRF fDB fCR ow od np pu R) (fun m => failR (TRF fDB fCR ow od np pu) m R) PD HS UN FA LO LA := by
  have hf := WK_few C I
  obtain ⟨h1, h2⟩ := I
  rcases h2 with ⟨c1, c2, c3⟩ | ⟨c1, R, c2, c3, c4⟩
  · exfalso
    rcases hf with z | z
    · rcases h with y | y
      · rw [c1] at y; exact absurd y (by decide)
      · omega
    · rw [c1] at z; exact absurd z.1 (by decide)
  · subst c2
    refine ⟨R, c3, c4, rounds_few C c4.1, ClrSt_congr C c4.2 (fun m hm => ?_) h1⟩
    show failR _ m (R + 1) = failR _ m R
    have e := c4.2 m hm
    simp only [failR]
    rw [if_neg (fun z => by omega)]
end WK2
section WK3
variable {np nm : Nat} {fDB fCR fMV fRK fDY fCU fLF : Nat → Int32} {sp bf : Int32}
def pS (du : Nat → Int) (a : Nat → Nat) (m n : Nat) : Int := sI (fun k => if a k = m then du k else 0) n
theorem pS_bound {du : Nat → Int} {a : Nat → Nat} {np : Nat} (h : ∀ k, k < np → 0 ≤ du k ∧ du k ≤ 999) (m : Nat) {n : Nat} (hn : n ≤ np) : 0 ≤ pS du a m n ∧ pS du a m n ≤ n * 999 := by
  refine ⟨sI_nonneg (fun k hk => ?_), sI_bound (fun k hk => ?_)⟩
  · have := h k (by omega); split <;> omega
  · have := h k (by omega); split <;> omega
theorem takeS_val {du : Nat → Int32} {db cr : Nat → Nat} {h : Nat → Int32} {np nm : Nat} (hnp : np ≤ 40) (hdu : ∀ k, k < np → 0 ≤ (du k).toInt ∧ (du k).toInt ≤ 999) (hdb : ∀ k, k < np → db k < nm) (hcr : ∀ k, k < np → cr k < nm) (hh : ∀ m, m < nm → 0 ≤ (h m).toInt ∧ (h m).toInt ≤ 100000000) :
    ∀ n, n ≤ np → ∀ m, m < nm → (takeS du db cr h n m).toInt = (h m).toInt - pS (fun k => (du k).toInt) db m n + pS (fun k => (du k).toInt) cr m n := by
  intro n
  induction n with
  | zero => intro _ m hm; simp [takeS, pS, sI]
  | succ n ih =>
    intro hn m hm
    have b1 := pS_bound hdu (a := db) m (show n ≤ np by omega)
    have b2 := pS_bound hdu (a := cr) m (show n ≤ np by omega)
    have b3 := hh m hm
    have b4 := hdu n (by omega)
    have i1 := ih (by omega) m hm
    have e1 : pS (fun k => (du k).toInt) db m (n + 1) = pS (fun k => (du k).toInt) db m n + (if db n = m then (du n).toInt else 0) := rfl
    have e2 : pS (fun k => (du k).toInt) cr m (n + 1) = pS (fun k => (du k).toInt) cr m n + (if cr n = m then (du n).toInt else 0) := rfl
    rw [e1, e2]
    have key : (upd (takeS du db cr h n) (db n) (takeS du db cr h n (db n) - du n) m).toInt = (takeS du db cr h n m).toInt - (if db n = m then (du n).toInt else 0) := by
      by_cases z : m = db n
      · subst z
        rw [pk_us, if_pos rfl, i32_sub (by omega) (by omega)]
      · rw [pk_un z, if_neg (fun y => z y.symm)]; omega
    show (upd (upd (takeS du db cr h n) (db n) (takeS du db cr h n (db n) - du n)) (cr n) (upd (takeS du db cr h n) (db n) (takeS du db cr h n (db n) - du n) (cr n) + du n) m).toInt = _
    by_cases z : m = cr n
    · subst z
      rw [pk_us, if_pos rfl]
      have b5 : (if db n = cr n then (du n).toInt else 0) ≤ 999 ∧ 0 ≤ (if db n = cr n then (du n).toInt else 0) := by split <;> omega
      rw [i32_add (by omega) (by omega), key]
      omega
    · have e3 : (if cr n = m then (du n).toInt else 0) = 0 := if_neg (fun y => z y.symm)
      rw [pk_un z, key, e3]
      omega
theorem WK_entry {fPU : Nat → Int32} (C : CLc np nm fDB fCR (odF (rkF fMV bf fRK fDY) np) (owF fCU sp bf fLF fRK fDY np) (fun m => (fPU m).toInt)) (hro : rkOk (rkF fMV bf fRK fDY) np) (hdu : ∀ k, k < np → 0 ≤ (dueF fCU sp bf fLF fRK fDY k).toInt ∧ (dueF fCU sp bf fLF fRK fDY k).toInt ≤ 999)
    {fPD fHS fUN fFA fLO fLA gPD gHS kHS gUN gFA gLO gLA : Nat → Int32} (h2 : gHS = fil fPU fHS nm ∧ gUN = fil (fun _ => 0) fUN nm ∧ gFA = fil (fun _ => 0) fFA nm ∧ gLO = fil (fun _ => 0) fLO nm ∧ gLA = fil (fun _ => nI np - 1) fLA nm)
    (h11 : gPD = fil (dueF fCU sp bf fLF fRK fDY) fPD np ∧ kHS = takeS (dueF fCU sp bf fLF fRK fDY) (dbN fDB) (dbN fCR) gHS np) :
    WKinv np nm fDB fCR (odF (rkF fMV bf fRK fDY) np) (owF fCU sp bf fLF fRK fDY np) (fun m => (fPU m).toInt) 0 1 0 gPD kHS gUN gFA gLO gLA := by
  obtain ⟨hnp, hnm, hdb, hcr, hod, hinj, hw, hpu⟩ := id C
  obtain ⟨a1, a2, a3, a4, a5⟩ := h2
  obtain ⟨b1, b2⟩ := h11
  have hw0 : ∀ k, 0 ≤ owF fCU sp bf fLF fRK fDY np k := fun k => (hw k).1
  have hT0 : ∀ m, TRF fDB fCR (owF fCU sp bf fLF fRK fDY np) (odF (rkF fMV bf fRK fDY) np) np (fun m => (fPU m).toInt) 0 m = preS (dbN fDB) (owF fCU sp bf fLF fRK fDY np) (odF (rkF fMV bf fRK fDY) np) m np := fun m => rfl
  have hfull : ∀ i, i < np → fillP (dbN fDB) (owF fCU sp bf fLF fRK fDY np) (odF (rkF fMV bf fRK fDY) np) (dbN fDB (odF (rkF fMV bf fRK fDY) np i)) (preS (dbN fDB) (owF fCU sp bf fLF fRK fDY np) (odF (rkF fMV bf fRK fDY) np) (dbN fDB (odF (rkF fMV bf fRK fDY) np i)) np) i = owF fCU sp bf fLF fRK fDY np (odF (rkF fMV bf fRK fDY) np i) := by
    intro i hi
    have s1 := preS_mono (db := dbN fDB) (od := odF (rkF fMV bf fRK fDY) np) hw0 (dbN fDB (odF (rkF fMV bf fRK fDY) np i)) (show i + 1 ≤ np from hi)
    have s2 := preS_mono (db := dbN fDB) (od := odF (rkF fMV bf fRK fDY) np) hw0 (dbN fDB (odF (rkF fMV bf fRK fDY) np i)) (show i ≤ i + 1 by omega)
    have s3 := preS_succ (db := dbN fDB) (ow := owF fCU sp bf fLF fRK fDY np) (od := odF (rkF fMV bf fRK fDY) np) (dbN fDB (odF (rkF fMV bf fRK fDY) np i)) i
    rw [if_pos rfl] at s3
    unfold fillP
    omega
  have how : ∀ k, k < np → owF fCU sp bf fLF fRK fDY np k = (dueF fCU sp bf fLF fRK fDY k).toInt := fun k hk => by unfold owF; rw [if_pos hk]
  refine ⟨⟨fun i hi => ?_, fun m hm => ?_, fun m hm => ?_, fun m hm => ?_, fun m hm => ?_, fun m hm => ?_⟩, Or.inl ⟨rfl, rfl, fun r hr => absurd hr (Nat.not_lt_zero _)⟩⟩
  · have e := hod i hi
    rw [b1, hT0, hfull i hi, how _ e]
    simp only [fil, if_pos e]
  · have e := takeS_val (du := dueF fCU sp bf fLF fRK fDY) (db := dbN fDB) (cr := dbN fCR) (h := gHS) hnp hdu (fun k hk => ix_lt (hdb k hk)) (fun k hk => ix_lt (hcr k hk)) (fun m hm => by rw [a1]; simp only [fil, if_pos hm]; exact hpu m hm) np (Nat.le_refl _) m hm
    rw [b2, e, a1]
    simp only [fil, if_pos hm]
    have p1 : pS (fun k => (dueF fCU sp bf fLF fRK fDY k).toInt) (dbN fDB) m np = preS (dbN fDB) (owF fCU sp bf fLF fRK fDY np) (odF (rkF fMV bf fRK fDY) np) m np := by
      unfold preS
      rw [sI_places hro (fun k => if dbN fDB k = m then owF fCU sp bf fLF fRK fDY np k else 0)]
      exact sI_congr (fun k hk => by rw [how k hk])
    have p2 : pS (fun k => (dueF fCU sp bf fLF fRK fDY k).toInt) (dbN fCR) m np = rcF fDB fCR (owF fCU sp bf fLF fRK fDY np) (odF (rkF fMV bf fRK fDY) np) np (TRF fDB fCR (owF fCU sp bf fLF fRK fDY np) (odF (rkF fMV bf fRK fDY) np) np (fun m => (fPU m).toInt) 0) m := by
      have q1 : rcF fDB fCR (owF fCU sp bf fLF fRK fDY np) (odF (rkF fMV bf fRK fDY) np) np (TRF fDB fCR (owF fCU sp bf fLF fRK fDY np) (odF (rkF fMV bf fRK fDY) np) np (fun m => (fPU m).toInt) 0) m = sI (fun i => if dbN fCR (odF (rkF fMV bf fRK fDY) np i) = m then owF fCU sp bf fLF fRK fDY np (odF (rkF fMV bf fRK fDY) np i) else 0) np := by
        refine sI_congr (fun i hi => ?_)
        rw [hT0, hfull i hi]
      rw [q1, sI_places hro (fun k => if dbN fCR k = m then owF fCU sp bf fLF fRK fDY np k else 0)]
      exact sI_congr (fun k hk => by rw [how k hk])
    rw [p1, p2, hT0]
    omega
  · rw [a2, fil_const_at hm, hT0, ti0]; exact (Int.sub_self _).symm
  · rw [a3, fil_const_at hm]; rfl
  · rw [a4, fil_const_at hm]
  · exact ⟨np, by rw [a5, fil_const_at hm, plI_last], Nat.le_refl _, by rw [hT0]; exact Int.le_refl _⟩
end WK3

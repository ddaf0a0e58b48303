/-! the reference's clearing -/
def PYc (np nm mm : Nat) (fDB fCR fRS fOW fWS : Nat → Int32) (pu : Int) : Prop :=
  np ≤ 40 ∧ nm ≤ 10 ∧ mm < nm ∧ (∀ k, k < np → vp_in (fDB k) nm) ∧ (∀ k, k < np → vp_in (fCR k) nm) ∧ rkOk fRS np ∧ (∀ k, k < np → 0 ≤ (fOW k).toInt ∧ (fOW k).toInt ≤ 999) ∧ (∀ k, k < np → 0 ≤ (fWS k).toInt ∧ (fWS k).toInt ≤ 999) ∧ 0 ≤ pu ∧ pu ≤ 100000000
/-- what is owed of a paper, as a whole number; 0 beyond the last -/
def owG (du : Nat → Int32) (np : Nat) : Nat → Int := fun k => if k < np then (du k).toInt else 0
def recS (fCR fWS : Nat → Int32) (mm n : Nat) : Int := sI (fun k => if dbN fCR k = mm then (fWS k).toInt else 0) n
theorem owG_nn {du : Nat → Int32} {np : Nat} (h : ∀ k, k < np → 0 ≤ (du k).toInt ∧ (du k).toInt ≤ 999) : ∀ k, 0 ≤ owG du np k ∧ owG du np k ≤ 999 := by
  intro k; unfold owG
  split
  · rename_i q; exact h k q
  · omega
theorem recS_bound {np nm mm : Nat} {fDB fCR fRS fOW fWS : Nat → Int32} {pu : Int} (C : PYc np nm mm fDB fCR fRS fOW fWS pu) {n : Nat} (hn : n ≤ np) : 0 ≤ recS fCR fWS mm n ∧ recS fCR fWS mm n ≤ 39960 := by
  obtain ⟨h1, h2, h3, h4, h5, h6, h7, h8, h9⟩ := C
  have a : 0 ≤ recS fCR fWS mm n := sI_nonneg (fun k hk => by have := h8 k (by omega); split <;> omega)
  have b : recS fCR fWS mm n ≤ n * 999 := sI_bound (fun k hk => by have := h8 k (by omega); split <;> omega)
  constructor <;> omega
theorem rec_step {np nm mm : Nat} {fDB fCR fRS fOW fWS : Nat → Int32} {pu : Int} (C : PYc np nm mm fDB fCR fRS fOW fWS pu) {k : Nat} (hk : k < np) {a v : Int32} (ha : a.toInt = pu + recS fCR fWS mm k) (hv : (fCR k = nI mm ∧ v = fWS k) ∨ (¬ fCR k = nI mm ∧ v = 0)) : (a + v).toInt = pu + recS fCR fWS mm (k + 1) := by
  have hb := recS_bound C (show k ≤ np by omega)
  obtain ⟨h1, h2, h3, h4, h5, h6, h7, h8, h9, h10⟩ := C
  have hw := h8 k hk
  have hi := ix_is (h5 k hk) (m := mm) (by omega) (by omega)
  have e : recS fCR fWS mm (k + 1) = recS fCR fWS mm k + (if dbN fCR k = mm then (fWS k).toInt else 0) := rfl
  rw [e]
  rcases hv with ⟨q1, q2⟩ | ⟨q1, q2⟩
  · rw [if_pos (hi.mp q1), q2, i32_add (by omega) (by omega)]; omega
  · rw [if_neg (fun z => q1 (hi.mpr z)), q2, i32_add (by rw [ti0]; omega) (by rw [ti0]; omega), ti0]; omega
/-- the place of the paper k at (r, k) of the reference's two loops -/
theorem od_at {rk : Nat → Int32} {n r k : Nat} (hr : r < 4) (hk : k < n) (h : rk k = nI r) : odF rk n (ordO rk n r ++ rowO rk r k).length = k ∧ (ordO rk n r ++ rowO rk r k).length < n := by
  have e1 : ordO rk n r ++ rowO rk r (k + 1) = (ordO rk n r ++ rowO rk r k) ++ [k] := by simp only [rowO]; rw [if_pos h, List.append_assoc]
  obtain ⟨M, hM⟩ := rowO_mono rk r (show k + 1 ≤ n from hk)
  have e2 : ordO rk n (r + 1) = ((ordO rk n r ++ rowO rk r k) ++ [k]) ++ M := by
    show ordO rk n r ++ rowO rk r n = _
    rw [hM, ← List.append_assoc, e1]
  have key : ∀ d, ∃ N, ordO rk n (r + 1 + d) = ordO rk n (r + 1) ++ N := by
    intro d
    induction d with
    | zero => exact ⟨[], by simp⟩
    | succ d ih =>
      obtain ⟨N, hN⟩ := ih
      exact ⟨N ++ rowO rk (r + 1 + d) n, by show ordO rk n (r + 1 + d) ++ rowO rk (r + 1 + d) n = _; rw [hN, List.append_assoc]⟩
  obtain ⟨N, hN⟩ := key (3 - r)
  rw [show r + 1 + (3 - r) = 4 by omega, e2] at hN
  constructor
  · show (ordO rk n 4).getD _ 0 = k
    rw [hN, List.getD_eq_getElem?_getD, List.append_assoc, List.append_assoc, List.getElem?_append_right (Nat.le_refl _), Nat.sub_self]
    rfl
  · have h1 := ordO_len rk n (r + 1) (by omega)
    rw [e2] at h1
    simp only [List.length_append, List.length_cons, List.length_nil] at h1 ⊢
    omega
def PYinv (np mm : Nat) (fDB fRS fOW fWS fPD fFA : Nat → Int32) (rnd : Nat) (A : Int) (pl : Nat) (has ot : Int32) (PD FA : Nat → Int32) : Prop :=
  has.toInt = A - min A (preS (dbN fDB) (owG fOW np) (odF fRS np) mm pl) ∧
  (∀ i, i < pl → dbN fDB (odF fRS np i) = mm → (PD (odF fRS np i)).toInt = fillP (dbN fDB) (owG fOW np) (odF fRS np) mm A i) ∧
  (∀ q, q < np → ¬ dbN fDB q = mm → PD q = fPD q) ∧
  ((ot = 1 ∧ ∃ i, i < pl ∧ dbN fDB (odF fRS np i) = mm ∧ ¬ fillP (dbN fDB) (owG fOW np) (odF fRS np) mm A i = (fWS (odF fRS np i)).toInt) ∨ (ot = 0 ∧ ∀ i, i < pl → dbN fDB (odF fRS np i) = mm → fillP (dbN fDB) (owG fOW np) (odF fRS np) mm A i = (fWS (odF fRS np i)).toInt)) ∧
  ((FA = upd fFA mm (nI rnd) ∧ fFA mm = 0 ∧ ∃ i, i < pl ∧ dbN fDB (odF fRS np i) = mm ∧ fillP (dbN fDB) (owG fOW np) (odF fRS np) mm A i < owG fOW np (odF fRS np i)) ∨ (FA = fFA ∧ (¬ fFA mm = 0 ∨ ∀ i, i < pl → dbN fDB (odF fRS np i) = mm → ¬ fillP (dbN fDB) (owG fOW np) (odF fRS np) mm A i < owG fOW np (odF fRS np i))))
section PY
variable {np nm mm : Nat} {fDB fCR fRS fOW fWS fPD fFA : Nat → Int32} {rnd : Nat} {pu A : Int} {pl : Nat} {has ot : Int32} {PD FA : Nat → Int32}
theorem PY_entry (C : PYc np nm mm fDB fCR fRS fOW fWS pu) (hA : 0 ≤ A) (hh : has.toInt = A) : PYinv np mm fDB fRS fOW fWS fPD fFA rnd A 0 has 0 fPD fFA := by
  refine ⟨?_, fun i hi => absurd hi (Nat.not_lt_zero _), fun _ _ _ => rfl, Or.inr ⟨rfl, fun i hi => absurd hi (Nat.not_lt_zero _)⟩, Or.inr ⟨rfl, Or.inr (fun i hi => absurd hi (Nat.not_lt_zero _))⟩⟩
  rw [hh, preS_0]; omega
/-- a place of another man's paper -/
theorem PY_other (I : PYinv np mm fDB fRS fOW fWS fPD fFA rnd A pl has ot PD FA) (h : ¬ dbN fDB (odF fRS np pl) = mm) : PYinv np mm fDB fRS fOW fWS fPD fFA rnd A (pl + 1) has ot PD FA := by
  obtain ⟨a1, a2, a3, a4, a5⟩ := I
  have e0 : preS (dbN fDB) (owG fOW np) (odF fRS np) mm (pl + 1) = preS (dbN fDB) (owG fOW np) (odF fRS np) mm pl := by rw [preS_succ, if_neg h, Int.add_zero]
  refine ⟨by rw [a1, e0], fun i hi hm => ?_, a3, ?_, ?_⟩
  · exact a2 i (by rcases Nat.lt_or_ge i pl with z | z; exact z; (have e : i = pl := by omega); subst e; exact absurd hm h) hm
  · rcases a4 with ⟨c1, i, c2, c3⟩ | ⟨c1, c2⟩
    · exact Or.inl ⟨c1, i, by omega, c3⟩
    · exact Or.inr ⟨c1, fun i hi hm => c2 i (by rcases Nat.lt_or_ge i pl with z | z; exact z; (have e : i = pl := by omega); subst e; exact absurd hm h) hm⟩
  · rcases a5 with ⟨c1, c2, i, c3, c4⟩ | ⟨c1, c2⟩
    · exact Or.inl ⟨c1, c2, i, by omega, c4⟩
    · refine Or.inr ⟨c1, c2.elim Or.inl (fun c => Or.inr (fun i hi hm => c i (by rcases Nat.lt_or_ge i pl with z | z; exact z; (have e : i = pl := by omega); subst e; exact absurd hm h) hm))⟩
theorem PY_hit (C : PYc np nm mm fDB fCR fRS fOW fWS pu) (hA : 0 ≤ A ∧ A ≤ 200000000) (I : PYinv np mm fDB fRS fOW fWS fPD fFA rnd A pl has ot PD FA) {k : Nat} (hk : k < np) (hp : odF fRS np pl = k) (hpl : pl < np) (h : dbN fDB k = mm) {n ot2 : Int32} {FA2 : Nat → Int32}
    (hn : (has ≤ fOW k ∧ n = has) ∨ (¬ has ≤ fOW k ∧ n = fOW k)) (ho : (ot2 = 1 ∧ (¬ ot = 0 ∨ ¬ n = fWS k)) ∨ (ot2 = 0 ∧ ot = 0 ∧ n = fWS k))
    (hf : (FA2 = upd FA mm (nI rnd) ∧ ¬ fOW k ≤ n ∧ FA mm = 0) ∨ (FA2 = FA ∧ (fOW k ≤ n ∨ ¬ FA mm = 0))) : PYinv np mm fDB fRS fOW fWS fPD fFA rnd A (pl + 1) (has - n) ot2 (upd PD k n) FA2 := by
  obtain ⟨a1, a2, a3, a4, a5⟩ := I
  obtain ⟨h1, h2, h3, h4, h5, h6, h7, h8, h9⟩ := C
  have hw := h7 k hk
  have how : owG fOW np k = (fOW k).toInt := by unfold owG; rw [if_pos hk]
  have hS0 := preS_nonneg (db := dbN fDB) (od := odF fRS np) (fun k => (owG_nn h7 k).1) mm pl
  have hS : preS (dbN fDB) (owG fOW np) (odF fRS np) mm (pl + 1) = preS (dbN fDB) (owG fOW np) (odF fRS np) mm pl + (fOW k).toInt := by rw [preS_succ, hp, if_pos h, how]
  have hnv : n.toInt = fillP (dbN fDB) (owG fOW np) (odF fRS np) mm A pl := by
    clear a4 a5 ho hf a2 a3
    unfold fillP
    rw [hS]
    rcases hn with ⟨q1, q2⟩ | ⟨q1, q2⟩
    · rw [q2]; rw [i32_le] at q1; omega
    · rw [q2]; rw [i32_le] at q1; omega
  have hnf : fillP (dbN fDB) (owG fOW np) (odF fRS np) mm A pl = min A (preS (dbN fDB) (owG fOW np) (odF fRS np) mm pl + (fOW k).toInt) - min A (preS (dbN fDB) (owG fOW np) (odF fRS np) mm pl) := by unfold fillP; rw [hS]
  have hsub : (has - n).toInt = A - min A (preS (dbN fDB) (owG fOW np) (odF fRS np) mm (pl + 1)) := by
    clear a4 a5 ho hf a2 a3 hn
    rw [hS, i32_sub (by omega) (by omega), hnv, hnf]; omega
  have hinj : ∀ i, i < pl → odF fRS np i ≠ k := fun i hi e => by
    have := odF_inj h6 i pl (by omega) hpl (e.trans hp.symm); omega
  refine ⟨?_, fun i hi hm => ?_, fun q hq hm => ?_, ?_, ?_⟩
  · exact hsub
  · rcases Nat.lt_or_ge i pl with z | z
    · rw [pk_un (hinj i z)]; exact a2 i z hm
    · have e : i = pl := by omega
      subst e
      rw [hp, pk_us, hnv]
  · rw [pk_un (fun e => hm (by rw [e]; exact h))]; exact a3 q hq hm
  · rcases ho with ⟨o1, o2⟩ | ⟨o1, o2, o3⟩
    · refine Or.inl ⟨o1, ?_⟩
      rcases a4 with ⟨c1, i, c2, c3⟩ | ⟨c1, c2⟩
      · exact ⟨i, by omega, c3⟩
      · rcases o2 with z | z
        · exact absurd c1 z
        · refine ⟨pl, Nat.lt_succ_self _, by rw [hp]; exact h, fun e => z (Int32.toInt_inj.mp ?_)⟩
          rw [hnv, e, hp]
    · refine Or.inr ⟨o1, ?_⟩
      rcases a4 with ⟨c1, _⟩ | ⟨c1, c2⟩
      · rw [c1] at o2; exact absurd o2 (by decide)
      · intro i hi hm
        rcases Nat.lt_or_ge i pl with z | z
        · exact c2 i z hm
        · have e : i = pl := by omega
          subst e
          rw [hp, ← hnv, o3]
  · rcases hf with ⟨f1, f2, f3⟩ | ⟨f1, f2⟩
    · rcases a5 with ⟨c1, c2, i, c3, c4⟩ | ⟨c1, c2⟩
      · refine Or.inl ⟨?_, c2, i, by omega, c4⟩
        rw [f1, c1]; funext j
        by_cases z : j = mm
        · subst z; rw [pk_us, pk_us]
        · rw [pk_un z, pk_un z]
      · refine Or.inl ⟨by rw [f1, c1], by rw [← c1]; exact f3, pl, Nat.lt_succ_self _, by rw [hp]; exact h, ?_⟩
        rw [hp, how, ← hnv]
        rw [i32_le] at f2; omega
    · rcases a5 with ⟨c1, c2, i, c3, c4⟩ | ⟨c1, c2⟩
      · exact Or.inl ⟨by rw [f1, c1], c2, i, by omega, c4⟩
      · refine Or.inr ⟨by rw [f1, c1], ?_⟩
        rcases f2 with z | z
        · refine c2.elim Or.inl (fun c => Or.inr (fun i hi hm => ?_))
          rcases Nat.lt_or_ge i pl with y | y
          · exact c i y hm
          · have e : i = pl := by omega
            subst e
            rw [hp, how, ← hnv]
            rw [i32_le] at z; omega
        · exact Or.inl (by rw [← c1]; exact z)
end PY
/-! rounds of the reference -/
theorem fillP_eq_tot {db od : Nat → Nat} {ow : Nat → Int} (hw : ∀ k, 0 ≤ ow k) {n m : Nat} {T U : Int} (hT : 0 ≤ T ∧ T ≤ preS db ow od m n) (hU : 0 ≤ U ∧ U ≤ preS db ow od m n) (h : ∀ i, i < n → db (od i) = m → fillP db ow od m T i = fillP db ow od m U i) : T = U := by
  have e1 := fillP_sum (db := db) (ow := ow) (od := od) m T n
  have e2 := fillP_sum (db := db) (ow := ow) (od := od) m U n
  have e3 : sI (fillP db ow od m T) n = sI (fillP db ow od m U) n := sI_congr (fun i hi => by
    by_cases q : db (od i) = m
    · exact h i hi q
    · rw [fillP_not q, fillP_not q])
  omega
theorem fillP_full {db od : Nat → Nat} {ow : Nat → Int} (hw : ∀ k, 0 ≤ ow k) {n m : Nat} {T : Int} (hT : 0 ≤ T ∧ T ≤ preS db ow od m n) (h : ∀ i, i < n → db (od i) = m → ¬ fillP db ow od m T i < ow (od i)) : T = preS db ow od m n := by
  refine fillP_eq_tot (n := n) hw hT ⟨preS_nonneg hw m n, Int.le_refl _⟩ (fun i hi hm => ?_)
  have h1 := h i hi hm
  have h2 := fillP_le (db := db) (od := od) hw m T i
  have h3 := fillP_le (db := db) (od := od) hw m (preS db ow od m n) i
  have h4 := fillP_mono (db := db) (od := od) hw m hT.2 i
  omega
theorem fillP_short {db od : Nat → Nat} {ow : Nat → Int} (hw : ∀ k, 0 ≤ ow k) {n m i : Nat} {T : Int} (hi : i < n) (h : fillP db ow od m T i < ow (od i)) (hm : db (od i) = m) : T < preS db ow od m n := by
  have h1 := preS_mono (db := db) (od := od) hw m (show i + 1 ≤ n from hi)
  have h2 := preS_succ (db := db) (ow := ow) (od := od) m i
  rw [if_pos hm] at h2
  have h3 := hw (od i)
  unfold fillP at h
  omega
theorem failR_zero {T : Nat → Nat → Int} (hd : ∀ r m, T (r + 1) m ≤ T r m) {m : Nat} : ∀ {q : Nat}, q ≤ 40000 → failR T m q = 0 → T q m = T 0 m
  | 0, _, _ => rfl
  | q + 1, hq, h => by
    simp only [failR] at h
    by_cases z : failR T m q = 0 ∧ T (q + 1) m < T q m
    · rw [if_pos z] at h
      exact absurd h (nI_ne0 (by omega) (by omega))
    · rw [if_neg z] at h
      have e := failR_zero hd (by omega) h
      have := hd q m
      have : ¬ T (q + 1) m < T q m := fun y => z ⟨h, y⟩
      omega
/-- the state of the reference's rounds: what is paid, who failed -/
def MSt (np nm : Nat) (fDB : Nat → Int32) (od : Nat → Nat) (ow T : Nat → Int) (fr PD FA : Nat → Int32) : Prop :=
  (∀ i, i < np → (PD (od i)).toInt = fillP (dbN fDB) ow od (dbN fDB (od i)) (T (dbN fDB (od i))) i) ∧ ∀ m, m < nm → FA m = fr m
def MRinv (np nm : Nat) (fDB fCR : Nat → Int32) (od : Nat → Nat) (ow pu : Nat → Int) (q mm : Nat) (mo : Int32) (PD FA : Nat → Int32) : Prop :=
  mm ≤ nm ∧ (∀ i, i < np → (PD (od i)).toInt = fillP (dbN fDB) ow od (dbN fDB (od i)) (TmX (TRF fDB fCR ow od np pu q) (TRF fDB fCR ow od np pu (q + 1)) mm (dbN fDB (od i))) i) ∧
  (∀ m, m < nm → FA m = if m < mm then failR (TRF fDB fCR ow od np pu) m (q + 1) else failR (TRF fDB fCR ow od np pu) m q) ∧
  ((mo = 1 ∧ ∃ m, m < mm ∧ TRF fDB fCR ow od np pu (q + 1) m < TRF fDB fCR ow od np pu q m) ∨ (mo = 0 ∧ ∀ m, m < mm → TRF fDB fCR ow od np pu (q + 1) m = TRF fDB fCR ow od np pu q m))
section MR
variable {np nm : Nat} {fDB fCR fRS fOW fWS : Nat → Int32} {pu : Nat → Int} {q mm : Nat} {mo : Int32} {PD FA : Nat → Int32}
theorem MR_entry (h : MSt np nm fDB (odF fRS np) (owG fOW np) (TRF fDB fCR (owG fOW np) (odF fRS np) np pu q) (fun m => failR (TRF fDB fCR (owG fOW np) (odF fRS np) np pu) m q) PD FA) : MRinv np nm fDB fCR (odF fRS np) (owG fOW np) pu q 0 0 PD FA := by
  unfold MRinv
  rw [TmX_0]
  exact ⟨Nat.zero_le _, h.1, fun m hm => by rw [if_neg (Nat.not_lt_zero _)]; exact h.2 m hm, Or.inr ⟨rfl, fun m hm => absurd hm (Nat.not_lt_zero _)⟩⟩
theorem MR_end (C : CLc np nm fDB fCR (odF fRS np) (owG fOW np) pu) (h : MRinv np nm fDB fCR (odF fRS np) (owG fOW np) pu q nm mo PD FA) : MSt np nm fDB (odF fRS np) (owG fOW np) (TRF fDB fCR (owG fOW np) (odF fRS np) np pu (q + 1)) (fun m => failR (TRF fDB fCR (owG fOW np) (odF fRS np) np pu) m (q + 1)) PD FA := by
  obtain ⟨h1, h2, h3, h4⟩ := h
  refine ⟨fun i hi => ?_, fun m hm => ?_⟩
  · rw [h2 i hi, TmX_all (ix_lt (C.2.2.1 _ (C.2.2.2.2.1 i hi)))]
  · rw [h3 m hm, if_pos hm]
/-- what pays wants, at the man mm -/
theorem MR_pre (C : CLc np nm fDB fCR (odF fRS np) (owG fOW np) pu) (hro : rkOk fRS np) (how : ∀ k, k < np → 0 ≤ (fOW k).toInt ∧ (fOW k).toInt ≤ 999) (hm : mm < nm) (hws : ∀ i, i < np → (fWS (odF fRS np i)).toInt = fillP (dbN fDB) (owG fOW np) (odF fRS np) (dbN fDB (odF fRS np i)) (TRF fDB fCR (owG fOW np) (odF fRS np) np pu q (dbN fDB (odF fRS np i))) i) :
    PYc np nm mm fDB fCR fRS fOW fWS (pu mm) ∧ pu mm + recS fCR fWS mm np = pu mm + rcF fDB fCR (owG fOW np) (odF fRS np) np (TRF fDB fCR (owG fOW np) (odF fRS np) np pu q) mm := by
  obtain ⟨h1, h2, h3, h4, h5, h6, h7, h8⟩ := id C
  have hsur : ∀ k, k < np → ∃ i, i < np ∧ odF fRS np i = k := by
    intro k hk
    by_cases z : ∃ i, i < np ∧ odF fRS np i = k
    · exact z
    · exfalso
      have e := sI_places hro (fun j => if k = j then (1 : Int) else 0)
      rw [sI_one, if_pos hk] at e
      have e2 : sI (fun i => if k = odF fRS np i then (1 : Int) else 0) np = sI (fun _ => 0) np := sI_congr (fun i hi => if_neg (fun y => z ⟨i, hi, y.symm⟩))
      have e3 : ∀ n, sI (fun _ => (0 : Int)) n = 0 := by
        intro n
        induction n with
        | zero => rfl
        | succ n ih => simp only [sI]; rw [ih]; rfl
      rw [e2, e3] at e
      exact absurd e (by decide)
  have hwb : ∀ k, k < np → 0 ≤ (fWS k).toInt ∧ (fWS k).toInt ≤ 999 := by
    intro k hk
    obtain ⟨i, hi, rfl⟩ := hsur k hk
    rw [hws i hi]
    have b1 := fillP_nonneg (db := dbN fDB) (od := odF fRS np) (fun k => (h7 k).1) (dbN fDB (odF fRS np i)) (TRF fDB fCR (owG fOW np) (odF fRS np) np pu q (dbN fDB (odF fRS np i))) i
    have b2 := fillP_le (db := dbN fDB) (od := odF fRS np) (fun k => (h7 k).1) (dbN fDB (odF fRS np i)) (TRF fDB fCR (owG fOW np) (odF fRS np) np pu q (dbN fDB (odF fRS np i))) i
    have b3 := (h7 (odF fRS np i)).2
    omega
  refine ⟨⟨h1, h2, hm, h3, h4, hro, how, hwb, (h8 mm hm).1, (h8 mm hm).2⟩, ?_⟩
  congr 1
  unfold recS
  rw [← sI_places hro (fun k => if dbN fCR k = mm then (fWS k).toInt else 0)]
  refine sI_congr (fun i hi => ?_)
  rw [hws i hi]
theorem MR_step (C : CLc np nm fDB fCR (odF fRS np) (owG fOW np) pu) (hq : q < 40000) (hm : mm < nm) (I : MRinv np nm fDB fCR (odF fRS np) (owG fOW np) pu q mm mo PD FA)
    (hws : ∀ i, i < np → (fWS (odF fRS np i)).toInt = fillP (dbN fDB) (owG fOW np) (odF fRS np) (dbN fDB (odF fRS np i)) (TRF fDB fCR (owG fOW np) (odF fRS np) np pu q (dbN fDB (odF fRS np i))) i)
    {r mo2 : Int32} {gPD gFA : Nat → Int32} {A : Int} (hA : A = pu mm + rcF fDB fCR (owG fOW np) (odF fRS np) np (TRF fDB fCR (owG fOW np) (odF fRS np) np pu q) mm)
    (p1 : ∀ i, i < np → dbN fDB (odF fRS np i) = mm → (gPD (odF fRS np i)).toInt = fillP (dbN fDB) (owG fOW np) (odF fRS np) mm A i) (p2 : ∀ k, k < np → ¬ dbN fDB k = mm → gPD k = PD k)
    (p3 : (r = 1 ∧ ∃ i, i < np ∧ dbN fDB (odF fRS np i) = mm ∧ ¬ fillP (dbN fDB) (owG fOW np) (odF fRS np) mm A i = (fWS (odF fRS np i)).toInt) ∨ (r = 0 ∧ ∀ i, i < np → dbN fDB (odF fRS np i) = mm → fillP (dbN fDB) (owG fOW np) (odF fRS np) mm A i = (fWS (odF fRS np i)).toInt))
    (p4 : (gFA = upd FA mm (nI (q + 1)) ∧ FA mm = 0 ∧ ∃ i, i < np ∧ dbN fDB (odF fRS np i) = mm ∧ fillP (dbN fDB) (owG fOW np) (odF fRS np) mm A i < owG fOW np (odF fRS np i)) ∨ (gFA = FA ∧ (¬ FA mm = 0 ∨ ∀ i, i < np → dbN fDB (odF fRS np i) = mm → ¬ fillP (dbN fDB) (owG fOW np) (odF fRS np) mm A i < owG fOW np (odF fRS np i))))
    (hmo : (mo2 = 1 ∧ (¬ r = 0 ∨ ¬ mo = 0)) ∨ (mo2 = 0 ∧ r = 0 ∧ mo = 0)) : MRinv np nm fDB fCR (odF fRS np) (owG fOW np) pu q (mm + 1) mo2 gPD gFA := by
  obtain ⟨a0, a1, a2, a3⟩ := I
  obtain ⟨h1, h2, h3, h4, h5, h6, h7, h8⟩ := id C
  have hw0 : ∀ k, 0 ≤ owG fOW np k := fun k => (h7 k).1
  have hT1 : TRF fDB fCR (owG fOW np) (odF fRS np) np pu (q + 1) mm = min (prF fDB (owG fOW np) (odF fRS np) mm np) A := by
    rw [hA]; exact TR_ref hw0 (nm := nm) (fun i hi => ix_lt (h3 _ (h5 i hi))) q mm
  have hf : ∀ i, i < np → fillP (dbN fDB) (owG fOW np) (odF fRS np) mm A i = fillP (dbN fDB) (owG fOW np) (odF fRS np) mm (TRF fDB fCR (owG fOW np) (odF fRS np) np pu (q + 1) mm) i := fun i hi => by
    rw [hT1]; exact (fillP_cap hw0 hi).symm
  have b0 := TRF_bound C q mm hm
  have b1 := TRF_bound C (q + 1) mm hm
  have hdec := TR_dec (db := dbN fDB) (cr := dbN fCR) (ow := owG fOW np) (od := odF fRS np) np pu q mm
  have e0 : TmX (TRF fDB fCR (owG fOW np) (odF fRS np) np pu q) (TRF fDB fCR (owG fOW np) (odF fRS np) np pu (q + 1)) (mm + 1) mm = TRF fDB fCR (owG fOW np) (odF fRS np) np pu (q + 1) mm := by simp [TmX]
  have e2 : ∀ m, m ≠ mm → TmX (TRF fDB fCR (owG fOW np) (odF fRS np) np pu q) (TRF fDB fCR (owG fOW np) (odF fRS np) np pu (q + 1)) (mm + 1) m = TmX (TRF fDB fCR (owG fOW np) (odF fRS np) np pu q) (TRF fDB fCR (owG fOW np) (odF fRS np) np pu (q + 1)) mm m := by
    intro m hne
    unfold TmX
    by_cases z : m < mm
    · rw [if_pos z, if_pos (by omega)]
    · rw [if_neg z, if_neg (by omega)]
  have hws2 : ∀ i, i < np → dbN fDB (odF fRS np i) = mm → (fWS (odF fRS np i)).toInt = fillP (dbN fDB) (owG fOW np) (odF fRS np) mm (TRF fDB fCR (owG fOW np) (odF fRS np) np pu q mm) i := fun i hi hd => by
    have := hws i hi
    rw [hd] at this
    exact this
  have hsame : (∀ i, i < np → dbN fDB (odF fRS np i) = mm → fillP (dbN fDB) (owG fOW np) (odF fRS np) mm A i = (fWS (odF fRS np i)).toInt) → TRF fDB fCR (owG fOW np) (odF fRS np) np pu (q + 1) mm = TRF fDB fCR (owG fOW np) (odF fRS np) np pu q mm := fun h =>
    fillP_eq_tot hw0 b1 b0 (fun i hi hd => by rw [← hf i hi, h i hi hd, hws2 i hi hd])
  have hdiff : (∃ i, i < np ∧ dbN fDB (odF fRS np i) = mm ∧ ¬ fillP (dbN fDB) (owG fOW np) (odF fRS np) mm A i = (fWS (odF fRS np i)).toInt) → TRF fDB fCR (owG fOW np) (odF fRS np) np pu (q + 1) mm < TRF fDB fCR (owG fOW np) (odF fRS np) np pu q mm := fun ⟨i, hi, hd, hne⟩ => by
    have : ¬ TRF fDB fCR (owG fOW np) (odF fRS np) np pu (q + 1) mm = TRF fDB fCR (owG fOW np) (odF fRS np) np pu q mm := fun e => hne (by rw [hf i hi, e, hws2 i hi hd])
    have hdec2 : TRF fDB fCR (owG fOW np) (odF fRS np) np pu (q + 1) mm ≤ TRF fDB fCR (owG fOW np) (odF fRS np) np pu q mm := hdec
    omega
  have hfa := a2 mm hm
  rw [if_neg (Nat.lt_irrefl _)] at hfa
  refine ⟨hm, fun i hi => ?_, fun m hm' => ?_, ?_⟩
  · by_cases z : dbN fDB (odF fRS np i) = mm
    · rw [p1 i hi z, z, e0, hf i hi]
    · rw [p2 _ (h5 i hi) z, a1 i hi, e2 _ z]
  · by_cases z : m = mm
    · subst z
      rw [if_pos (Nat.lt_succ_self _)]
      simp only [failR]
      rcases p4 with ⟨c1, c2, i, c3, c4, c5⟩ | ⟨c1, c2⟩
      · rw [c1, pk_us]
        rw [hfa] at c2
        have t0 := failR_zero (fun r m => TR_dec np pu r m) (by omega) c2
        have t1 : TRF fDB fCR (owG fOW np) (odF fRS np) np pu (q + 1) m < prF fDB (owG fOW np) (odF fRS np) m np := by
          rw [hf i c3] at c5
          exact fillP_short hw0 c3 c5 c4
        have t2 : TRF fDB fCR (owG fOW np) (odF fRS np) np pu q m = prF fDB (owG fOW np) (odF fRS np) m np := t0
        rw [if_pos ⟨c2, by omega⟩]
      · rw [c1, hfa]
        rcases c2 with y | y
        · rw [hfa] at y
          rw [if_neg (fun w => y w.1)]
        · have t1 := fillP_full hw0 b1 (fun i hi hd => by rw [← hf i hi]; exact y i hi hd)
          have t2 : TRF fDB fCR (owG fOW np) (odF fRS np) np pu (q + 1) m = prF fDB (owG fOW np) (odF fRS np) m np := t1
          rw [if_neg (fun w => by have := w.2; omega)]
    · have e3 : gFA m = FA m := by
        rcases p4 with ⟨c1, _⟩ | ⟨c1, _⟩
        · rw [c1, pk_un z]
        · rw [c1]
      rw [e3, a2 m hm']
      by_cases y : m < mm
      · rw [if_pos y, if_pos (by omega)]
      · rw [if_neg y, if_neg (by omega)]
  · rcases hmo with ⟨o1, o2⟩ | ⟨o1, o2, o3⟩
    · refine Or.inl ⟨o1, ?_⟩
      rcases a3 with ⟨c1, m, c2, c3⟩ | ⟨c1, c2⟩
      · exact ⟨m, by omega, c3⟩
      · rcases o2 with y | y
        · rcases p3 with ⟨_, z⟩ | ⟨z, _⟩
          · exact ⟨mm, Nat.lt_succ_self _, hdiff z⟩
          · exact absurd z y
        · exact absurd c1 y
    · refine Or.inr ⟨o1, fun m hm' => ?_⟩
      rcases Nat.lt_or_ge m mm with z | z
      · rcases a3 with ⟨c1, _⟩ | ⟨_, c2⟩
        · rw [c1] at o3; exact absurd o3 (by decide)
        · exact c2 m z
      · have e : m = mm := by omega
        subst e
        rcases p3 with ⟨y, _⟩ | ⟨_, y⟩
        · rw [y] at o2; exact absurd o2 (by decide)
        · exact hsame y
end MR
section PY2
variable {np nm mm : Nat} {fDB fCR fRS fOW fWS fPD fFA : Nat → Int32} {rnd : Nat} {pu A : Int} {has ot : Int32} {PD FA : Nat → Int32} {r k : Nat}
theorem PY_miss (I : PYinv np mm fDB fRS fOW fWS fPD fFA rnd A (ordO fRS np r ++ rowO fRS r k).length has ot PD FA) (h : ¬ fRS k = nI r) : PYinv np mm fDB fRS fOW fWS fPD fFA rnd A (ordO fRS np r ++ rowO fRS r (k + 1)).length has ot PD FA := by
  simp only [rowO]; rw [if_neg h]; exact I
theorem PY_pass (I : PYinv np mm fDB fRS fOW fWS fPD fFA rnd A (ordO fRS np r ++ rowO fRS r k).length has ot PD FA) (hr : r < 4) (hk : k < np) (hd : ¬ dbN fDB k = mm) : PYinv np mm fDB fRS fOW fWS fPD fFA rnd A (ordO fRS np r ++ rowO fRS r (k + 1)).length has ot PD FA := by
  by_cases h : fRS k = nI r
  · rw [← len_hit rfl h]
    exact PY_other I (by rw [(od_at hr hk h).1]; exact hd)
  · exact PY_miss I h
theorem PY_take (C : PYc np nm mm fDB fCR fRS fOW fWS pu) (hA : 0 ≤ A ∧ A ≤ 200000000) (I : PYinv np mm fDB fRS fOW fWS fPD fFA rnd A (ordO fRS np r ++ rowO fRS r k).length has ot PD FA) (hr : r < 4) (hk : k < np) (h : fRS k = nI r) (hd : dbN fDB k = mm) {n ot2 : Int32} {FA2 : Nat → Int32}
    (hn : (has ≤ fOW k ∧ n = has) ∨ (¬ has ≤ fOW k ∧ n = fOW k)) (ho : (ot2 = 1 ∧ (¬ ot = 0 ∨ ¬ n = fWS k)) ∨ (ot2 = 0 ∧ ot = 0 ∧ n = fWS k))
    (hf : (FA2 = upd FA mm (nI rnd) ∧ ¬ fOW k ≤ n ∧ FA mm = 0) ∨ (FA2 = FA ∧ (fOW k ≤ n ∨ ¬ FA mm = 0))) : PYinv np mm fDB fRS fOW fWS fPD fFA rnd A (ordO fRS np r ++ rowO fRS r (k + 1)).length (has - n) ot2 (upd PD k n) FA2 := by
  rw [← len_hit rfl h]
  exact PY_hit C hA I hk (od_at hr hk h).1 (od_at hr hk h).2 hd hn ho hf
end PY2
def MKinv (np nm : Nat) (fDB fCR : Nat → Int32) (od : Nat → Nat) (ow pu : Nat → Int) (q : Nat) (mo rn : Int32) (PD FA : Nat → Int32) : Prop :=
  MSt np nm fDB od ow (TRF fDB fCR ow od np pu q) (fun m => failR (TRF fDB fCR ow od np pu) m q) PD FA ∧
  ((mo = 1 ∧ rn = nI q ∧ ∀ r, r < q → ∃ m, m < nm ∧ TRF fDB fCR ow od np pu (r + 1) m < TRF fDB fCR ow od np pu r m) ∨ (mo = 0 ∧ ∃ R, q = R + 1 ∧ rn = nI R ∧ isR nm (TRF fDB fCR ow od np pu) R))
section MK
variable {np nm : Nat} {fDB fCR : Nat → Int32} {od : Nat → Nat} {ow pu : Nat → Int} {q : Nat} {mo rn : Int32} {PD FA : Nat → Int32}
theorem MK_few (C : CLc np nm fDB fCR od ow pu) (I : MKinv np nm fDB fCR od ow pu q mo rn PD FA) : q ≤ 39961 := by
  rcases I.2 with ⟨h1, h2, h3⟩ | ⟨h1, R, h2, h3, h4⟩
  · have := rounds_few C h3; omega
  · have := rounds_few C h4.1; omega
theorem MK_mo (C : CLc np nm fDB fCR od ow pu) (I : MKinv np nm fDB fCR od ow pu q mo rn PD FA) (h : ¬ mo = 0) : mo = 1 ∧ rn = nI q ∧ q ≤ 39960 ∧ ∀ r, r < q → ∃ m, m < nm ∧ TRF fDB fCR ow od np pu (r + 1) m < TRF fDB fCR ow od np pu r m := by
  rcases I.2 with ⟨h1, h2, h3⟩ | ⟨h1, h2⟩
  · exact ⟨h1, h2, rounds_few C h3, h3⟩
  · exact absurd h1 h
theorem MK_exit (C : CLc np nm fDB fCR od ow pu) (I : MKinv np nm fDB fCR od ow pu q mo rn PD FA) (h : mo = 0) : ∃ R, rn = nI R ∧ isR nm (TRF fDB fCR ow od np pu) R ∧ R ≤ 39960 ∧ MSt np nm fDB od ow (TRF fDB fCR ow od np pu R) (fun m => failR (TRF fDB fCR ow od np pu) m R) PD FA := by
  obtain ⟨h1, h2⟩ := I
  rcases h2 with ⟨c1, c2, c3⟩ | ⟨c1, R, c2, c3, c4⟩
  · rw [c1] at h; exact absurd h (by decide)
  · subst c2
    refine ⟨R, c3, c4, rounds_few C c4.1, fun i hi => ?_, fun m hm => ?_⟩
    · rw [h1.1 i hi, c4.2 _ (ix_lt (C.2.2.1 _ (C.2.2.2.2.1 i hi)))]
    · rw [h1.2 m hm]
      show failR _ m (R + 1) = failR _ m R
      have e := c4.2 m hm
      simp only [failR]
      rw [if_neg (fun z => by omega)]
end MK
theorem clcM_ok {np nm : Nat} {fDB fCR fRK fLF fPU RS OW : Nat → Int32} (P : papOk np nm fDB fCR fRK fLF fPU) (hro : rkOk RS np) (how : ∀ k, k < np → 0 ≤ (OW k).toInt ∧ (OW k).toInt ≤ 999) : CLc np nm fDB fCR (odF RS np) (owG OW np) (fun m => (fPU m).toInt) := by
  obtain ⟨h1, h2, h3, h4, h5, h6, h7⟩ := P
  exact ⟨h1, h2, h3, h4, fun i hi => odF_lt hro hi, odF_inj hro, owG_nn how, h7⟩
theorem MK_entry {np nm : Nat} {fDB fCR RS OW PD FA : Nat → Int32} {pu : Nat → Int} (C : CLc np nm fDB fCR (odF RS np) (owG OW np) pu) (hpd : ∀ k, k < np → PD k = OW k) (hfa : ∀ m, m < nm → FA m = 0) : MKinv np nm fDB fCR (odF RS np) (owG OW np) pu 0 1 0 PD FA := by
  obtain ⟨h1, h2, h3, h4, h5, h6, h7, h8⟩ := id C
  refine ⟨⟨fun i hi => ?_, hfa⟩, Or.inl ⟨rfl, rfl, fun r hr => absurd hr (Nat.not_lt_zero _)⟩⟩
  have hw0 : ∀ k, 0 ≤ owG OW np k := fun k => (h7 k).1
  have s1 := preS_mono (db := dbN fDB) (od := odF RS np) hw0 (dbN fDB (odF RS np i)) (show i + 1 ≤ np from hi)
  have s2 := preS_mono (db := dbN fDB) (od := odF RS np) hw0 (dbN fDB (odF RS np i)) (show i ≤ i + 1 by omega)
  have s3 := preS_succ (db := dbN fDB) (ow := owG OW np) (od := odF RS np) (dbN fDB (odF RS np i)) i
  rw [if_pos rfl] at s3
  have e : (PD (odF RS np i)).toInt = owG OW np (odF RS np i) := by
    rw [hpd _ (h5 i hi)]; unfold owG; rw [if_pos (h5 i hi)]
  rw [e]
  show _ = fillP (dbN fDB) (owG OW np) (odF RS np) (dbN fDB (odF RS np i)) (preS (dbN fDB) (owG OW np) (odF RS np) (dbN fDB (odF RS np i)) np) i
  unfold fillP
  omega
theorem mo_up {T : Nat → Nat → Int} {q nm : Nat} {mo : Int32} (h : (mo = 1 ∧ ∃ m, m < nm ∧ T (q + 1) m < T q m) ∨ (mo = 0 ∧ ∀ m, m < nm → T (q + 1) m = T q m)) (hm : ¬ mo = 0) (h2 : ∀ r, r < q → ∃ m, m < nm ∧ T (r + 1) m < T r m) : mo = 1 ∧ nI (q + 1) = nI (q + 1) ∧ ∀ r, r < q + 1 → ∃ m, m < nm ∧ T (r + 1) m < T r m := by
  rcases h with ⟨a, b⟩ | ⟨a, b⟩
  · refine ⟨a, rfl, fun r hr => ?_⟩
    rcases Nat.lt_or_ge r q with z | z
    · exact h2 r z
    · have e : r = q := by omega
      subst e; exact b
  · exact absurd a hm

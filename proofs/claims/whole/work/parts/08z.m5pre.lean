/-! CLEARING over whole numbers: n papers by places, ow what is owed, db and cr debtor and creditor, od the paper at a place -/
def sI (f : Nat → Int) : Nat → Int
  | 0 => 0
  | n + 1 => sI f n + f n
theorem sI_congr {f g : Nat → Int} : ∀ {n : Nat}, (∀ k, k < n → f k = g k) → sI f n = sI g n
  | 0, _ => rfl
  | n + 1, h => by unfold sI; rw [sI_congr (fun k hk => h k (by omega)), h n (by omega)]
theorem sI_sub {f g : Nat → Int} : ∀ {n : Nat}, sI (fun k => f k - g k) n = sI f n - sI g n
  | 0 => rfl
  | n + 1 => by have := sI_sub (f := f) (g := g) (n := n); simp only [sI]; omega
theorem sI_le {f g : Nat → Int} : ∀ {n : Nat}, (∀ k, k < n → f k ≤ g k) → sI f n ≤ sI g n
  | 0, _ => Int.le_refl _
  | n + 1, h => by have h1 := sI_le (fun k hk => h k (by omega)) (n := n); have h2 := h n (by omega); simp only [sI]; omega
theorem sI_nonneg {f : Nat → Int} : ∀ {n : Nat}, (∀ k, k < n → 0 ≤ f k) → 0 ≤ sI f n
  | 0, _ => Int.le_refl _
  | n + 1, h => by have h1 := sI_nonneg (fun k hk => h k (by omega)) (n := n); have h2 := h n (by omega); simp only [sI]; omega
theorem sI_bound {f : Nat → Int} {c : Int} : ∀ {n : Nat}, (∀ k, k < n → f k ≤ c) → sI f n ≤ n * c
  | 0, _ => by simp [sI]
  | n + 1, h => by
    have h1 := sI_bound (fun k hk => h k (by omega)) (n := n)
    have h2 := h n (by omega)
    simp only [sI]
    have e : ((n + 1 : Nat) : Int) * c = (n : Int) * c + c := by rw [Int.natCast_add, Int.add_mul]; simp
    omega
theorem sI_mono {f : Nat → Int} (h : ∀ k, 0 ≤ f k) {a : Nat} : ∀ {b : Nat}, a ≤ b → sI f a ≤ sI f b
  | 0, hab => by have e : a = 0 := by omega
                 subst e; exact Int.le_refl _
  | b + 1, hab => by
    rcases Nat.lt_or_ge a (b + 1) with q | q
    · have h1 := sI_mono h (a := a) (b := b) (by omega)
      have h2 := h b
      simp only [sI]; omega
    · have e : a = b + 1 := by omega
      subst e; exact Int.le_refl _
/-- what one man owes at the places below i -/
def preS (db : Nat → Nat) (ow : Nat → Int) (od : Nat → Nat) (m i : Nat) : Int := sI (fun j => if db (od j) = m then ow (od j) else 0) i
/-- what he pays at the place i out of T -/
def fillP (db : Nat → Nat) (ow : Nat → Int) (od : Nat → Nat) (m : Nat) (T : Int) (i : Nat) : Int := min T (preS db ow od m (i + 1)) - min T (preS db ow od m i)
section CLR
variable {db cr od : Nat → Nat} {ow : Nat → Int}
theorem preS_succ (m i : Nat) : preS db ow od m (i + 1) = preS db ow od m i + (if db (od i) = m then ow (od i) else 0) := rfl
theorem preS_0 (m : Nat) : preS db ow od m 0 = 0 := rfl
theorem preS_mono (hw : ∀ k, 0 ≤ ow k) (m : Nat) {a b : Nat} (h : a ≤ b) : preS db ow od m a ≤ preS db ow od m b := sI_mono (fun k => by split <;> simp [hw]) h
theorem preS_nonneg (hw : ∀ k, 0 ≤ ow k) (m i : Nat) : 0 ≤ preS db ow od m i := by
  have := preS_mono (db := db) (od := od) hw m (Nat.zero_le i)
  rw [preS_0] at this
  exact this
theorem fillP_not {m i : Nat} (h : ¬ db (od i) = m) (T : Int) : fillP db ow od m T i = 0 := by
  unfold fillP; rw [preS_succ, if_neg h]; omega
theorem fillP_nonneg (hw : ∀ k, 0 ≤ ow k) (m : Nat) (T : Int) (i : Nat) : 0 ≤ fillP db ow od m T i := by
  have := preS_mono (db := db) (od := od) hw m (show i ≤ i + 1 by omega)
  unfold fillP; omega
theorem fillP_le (hw : ∀ k, 0 ≤ ow k) (m : Nat) (T : Int) (i : Nat) : fillP db ow od m T i ≤ ow (od i) := by
  have h1 := hw (od i)
  unfold fillP; rw [preS_succ]
  split <;> omega
theorem fillP_mono (hw : ∀ k, 0 ≤ ow k) (m : Nat) {T U : Int} (h : T ≤ U) (i : Nat) : fillP db ow od m T i ≤ fillP db ow od m U i := by
  have := preS_mono (db := db) (od := od) hw m (show i ≤ i + 1 by omega)
  unfold fillP; omega
theorem fillP_sum (m : Nat) (T : Int) : ∀ n, sI (fillP db ow od m T) n = min T (preS db ow od m n) - min T 0
  | 0 => by rw [preS_0]; simp only [sI]; omega
  | n + 1 => by
    have := fillP_sum m T n
    simp only [sI, this, fillP]
    omega
/-- what comes to a man, if each man u pays T u -/
def recvT (db cr : Nat → Nat) (ow : Nat → Int) (od : Nat → Nat) (n : Nat) (T : Nat → Int) (m : Nat) : Int := sI (fun i => if cr (od i) = m then fillP db ow od (db (od i)) (T (db (od i))) i else 0) n
theorem recvT_mono (hw : ∀ k, 0 ≤ ow k) {n nm : Nat} (hdb : ∀ i, i < n → db (od i) < nm) {T U : Nat → Int} (h : ∀ m, m < nm → T m ≤ U m) (m : Nat) : recvT db cr ow od n T m ≤ recvT db cr ow od n U m := by
  refine sI_le (fun i hi => ?_)
  split
  · exact fillP_mono hw _ (h _ (hdb i hi)) i
  · exact Int.le_refl _
theorem recvT_congr {n nm : Nat} (hdb : ∀ i, i < n → db (od i) < nm) {T U : Nat → Int} (h : ∀ m, m < nm → T m = U m) (m : Nat) : recvT db cr ow od n T m = recvT db cr ow od n U m := by
  refine sI_congr (fun i hi => ?_)
  rw [h _ (hdb i hi)]
theorem recvT_nonneg (hw : ∀ k, 0 ≤ ow k) (n : Nat) (T : Nat → Int) (m : Nat) : 0 ≤ recvT db cr ow od n T m := by
  refine sI_nonneg (fun i hi => ?_)
  split
  · exact fillP_nonneg hw _ _ _
  · exact Int.le_refl _
/-- what each man pays in all, round by round -/
def TR (db cr : Nat → Nat) (ow : Nat → Int) (od : Nat → Nat) (n : Nat) (pu : Nat → Int) : Nat → Nat → Int
  | 0, m => preS db ow od m n
  | r + 1, m => min (TR db cr ow od n pu r m) (pu m + recvT db cr ow od n (TR db cr ow od n pu r) m)
theorem TR_dec (n : Nat) (pu : Nat → Int) (r m : Nat) : TR db cr ow od n pu (r + 1) m ≤ TR db cr ow od n pu r m := by
  simp only [TR]; omega
theorem TR_le (n : Nat) (pu : Nat → Int) : ∀ (r m : Nat), TR db cr ow od n pu r m ≤ preS db ow od m n
  | 0, m => Int.le_refl _
  | r + 1, m => Int.le_trans (TR_dec n pu r m) (TR_le n pu r m)
theorem TR_nonneg (hw : ∀ k, 0 ≤ ow k) {nm n : Nat} {pu : Nat → Int} (hpu : ∀ m, m < nm → 0 ≤ pu m) : ∀ (r m : Nat), m < nm → 0 ≤ TR db cr ow od n pu r m
  | 0, m, _ => preS_nonneg hw m n
  | r + 1, m, hm => by
    have h1 := TR_nonneg (n := n) hw hpu r m hm
    have h2 := recvT_nonneg (db := db) (cr := cr) (od := od) hw n (TR db cr ow od n pu r) m
    have h3 := hpu m hm
    simp only [TR]; omega
/-- the reference's way: out of all that he has -/
theorem TR_ref (hw : ∀ k, 0 ≤ ow k) {nm n : Nat} {pu : Nat → Int} (hdb : ∀ i, i < n → db (od i) < nm) : ∀ (r m : Nat), TR db cr ow od n pu (r + 1) m = min (preS db ow od m n) (pu m + recvT db cr ow od n (TR db cr ow od n pu r) m)
  | 0, m => rfl
  | r + 1, m => by
    have h1 := TR_ref (pu := pu) hw hdb r m
    have h2 := recvT_mono (cr := cr) hw hdb (T := TR db cr ow od n pu (r + 1)) (U := TR db cr ow od n pu r) (fun u _ => TR_dec n pu r u) m
    have h3 : TR db cr ow od n pu (r + 1 + 1) m = min (TR db cr ow od n pu (r + 1) m) (pu m + recvT db cr ow od n (TR db cr ow od n pu (r + 1)) m) := rfl
    rw [h3, h1]; omega
theorem fillP_cap {n m : Nat} (hw : ∀ k, 0 ≤ ow k) {A : Int} {i : Nat} (hi : i < n) : fillP db ow od m (min (preS db ow od m n) A) i = fillP db ow od m A i := by
  have h1 := preS_mono (db := db) (od := od) hw m (show i + 1 ≤ n from hi)
  have h2 := preS_mono (db := db) (od := od) hw m (show i ≤ n by omega)
  unfold fillP; omega
/-- the last round that differs from the one ahead -/
def isR (nm : Nat) (T : Nat → Nat → Int) (R : Nat) : Prop := (∀ r, r < R → ∃ m, m < nm ∧ T (r + 1) m < T r m) ∧ ∀ m, m < nm → T (R + 1) m = T R m
theorem isR_one {nm : Nat} {T : Nat → Nat → Int} {R S : Nat} (h1 : isR nm T R) (h2 : isR nm T S) : R = S := by
  rcases Nat.lt_trichotomy R S with q | q | q
  · obtain ⟨m, hm, hlt⟩ := h2.1 R q
    have := h1.2 m hm
    omega
  · exact q
  · obtain ⟨m, hm, hlt⟩ := h1.1 S q
    have := h2.2 m hm
    omega
/-- the round in which a man fails, of the first r: 0 if in none -/
def failR (T : Nat → Nat → Int) (m : Nat) : Nat → Int32
  | 0 => 0
  | r + 1 => if failR T m r = 0 ∧ T (r + 1) m < T r m then nI (r + 1) else failR T m r
theorem sum_drop {nm : Nat} {T : Nat → Nat → Int} (hd : ∀ r m, T (r + 1) m ≤ T r m) : ∀ (r : Nat), (∀ q, q < r → ∃ m, m < nm ∧ T (q + 1) m < T q m) → sI (T r) nm + r ≤ sI (T 0) nm
  | 0, _ => by simp
  | r + 1, h => by
    have h1 := sum_drop hd r (fun q hq => h q (by omega))
    obtain ⟨m, hm, hlt⟩ := h r (by omega)
    have h2 : sI (T (r + 1)) nm + 1 ≤ sI (T r) nm := by
      clear h1 h
      induction nm with
      | zero => exact absurd hm (Nat.not_lt_zero _)
      | succ k ih =>
        simp only [sI]
        have h3 := hd r k
        rcases Nat.lt_or_ge m k with q | q
        · have := ih q; omega
        · have e : m = k := by omega
          subst e
          have h4 : sI (T (r + 1)) m ≤ sI (T r) m := sI_le (fun u _ => hd r u)
          omega
    omega
end CLR

/-! payLess: one man pays less, the last in order first -/
def plI : Nat → Int32
  | 0 => -1
  | j + 1 => nI j
theorem plI_dec : ∀ j : Nat, nI j + Int32.ofInt (-1) = plI j
  | 0 => by decide
  | j + 1 => pk_m1 j
theorem plI_pos {j : Nat} (hj : j ≤ 40) (h : ¬ plI j < 0) : ∃ i, j = i + 1 := by
  cases j with
  | zero => exact absurd (by decide) h
  | succ i => exact ⟨i, rfl⟩
theorem plI_neg {j : Nat} (hj : j ≤ 40) (h : plI j < 0) : j = 0 := by
  cases j with
  | zero => rfl
  | succ i => exact absurd h (nI_pos (by omega))
theorem ti0 : (0 : Int32).toInt = 0 := by decide
theorem i32_lt {a b : Int32} : a < b ↔ a.toInt < b.toInt := Int32.lt_iff_toInt_lt
theorem i32_le {a b : Int32} : a ≤ b ↔ a.toInt ≤ b.toInt := Int32.le_iff_toInt_le
theorem i32_add {x y : Int32} (h1 : -2147483648 ≤ x.toInt + y.toInt) (h2 : x.toInt + y.toInt < 2147483648) : (x + y).toInt = x.toInt + y.toInt := by
  rw [Int32.toInt_add]
  exact Int.bmod_eq_of_le (by omega) (by omega)
theorem i32_sub {x y : Int32} (h1 : -2147483648 ≤ x.toInt - y.toInt) (h2 : x.toInt - y.toInt < 2147483648) : (x - y).toInt = x.toInt - y.toInt := by
  rw [Int32.toInt_sub]
  exact Int.bmod_eq_of_le (by omega) (by omega)
theorem i32_neg {x : Int32} (h : x.toInt ≠ -2147483648) : (-x).toInt = -x.toInt := by
  have h1 := Int32.le_toInt x
  have h2 := Int32.toInt_lt x
  rw [Int32.toInt_neg]
  exact Int.bmod_eq_of_le (by omega) (by omega)
theorem ix_lt {x : Int32} {n : Nat} (h : vp_in x n) : ix x < n := Nat.not_le.mp fun q => h (Or.inr q)
theorem ix_eq {x : Int32} {n m : Nat} (h : vp_in x n) (hn : n < 2 ^ 31) : x = nI m ↔ ix x = m ∨ (x = nI m ∧ ¬ m < 2 ^ 31) := by
  obtain ⟨j, hj, rfl⟩ := vp_in_of h hn
  have e : ix (nI j) = j := nI_clamp (by omega)
  rw [e]
  by_cases hm : m < 2 ^ 31
  · rw [nI_eq (by omega) hm]
    constructor
    · exact Or.inl
    · rintro (q | ⟨q, q2⟩)
      · exact q
      · exact absurd hm q2
  · constructor
    · intro q; exact Or.inr ⟨q, hm⟩
    · rintro (q | q)
      · subst q; omega
      · exact q.1
theorem ix_is {x : Int32} {n m : Nat} (h : vp_in x n) (hn : n < 2 ^ 31) (hm : m < 2 ^ 31) : x = nI m ↔ ix x = m := by
  rw [ix_eq h hn]
  constructor
  · rintro (q | q)
    · exact q
    · exact absurd hm q.2
  · exact Or.inl
theorem vp_wide {x : Int32} {n N : Nat} (h : vp_in x n) (hN : n ≤ N) : vp_in x N := fun q => h (q.elim Or.inl (fun z => Or.inr (Nat.le_trans hN z)))
def PLc (np nm mm : Nat) (fDB fCR : Nat → Int32) (od : Nat → Nat) (ow : Nat → Int) (T T1 : Int) : Prop :=
  np ≤ 40 ∧ nm ≤ 10 ∧ mm < nm ∧ (∀ k, k < np → vp_in (fDB k) nm) ∧ (∀ k, k < np → vp_in (fCR k) nm) ∧ (∀ i, i < np → od i < np) ∧ (∀ i j, i < np → j < np → od i = od j → i = j) ∧ (∀ k, 0 ≤ ow k ∧ ow k ≤ 999) ∧ 0 ≤ T1 ∧ T1 < T
abbrev dbN (f : Nat → Int32) : Nat → Nat := fun k => ix (f k)
def dropS (fDB fCR : Nat → Int32) (od : Nat → Nat) (ow : Nat → Int) (mm : Nat) (T T1 : Int) (c j : Nat) : Int :=
  sI (fun i => if dbN fDB (od i) = mm ∧ dbN fCR (od i) = c then fillP (dbN fDB) ow od mm T i - fillP (dbN fDB) ow od mm T1 i else 0) j
def PLinv (np nm mm : Nat) (fDB fCR : Nat → Int32) (od : Nat → Nat) (ow : Nat → Int) (T T1 : Int) (fPD fLO fLA : Nat → Int32) (j : Nat) (op : Int32) (PD LO LA : Nat → Int32) (l : Nat) : Prop :=
  j ≤ np ∧ (∀ i, i < np → dbN fDB (od i) = mm → (PD (od i)).toInt = if j ≤ i then fillP (dbN fDB) ow od mm T1 i else fillP (dbN fDB) ow od mm T i) ∧
  (∀ k, k < np → ¬ dbN fDB k = mm → PD k = fPD k) ∧ op.toInt = min T (preS (dbN fDB) ow od mm j) - min T1 (preS (dbN fDB) ow od mm j) ∧
  (∀ c, c < nm → (LO c).toInt = (fLO c).toInt + (dropS fDB fCR od ow mm T T1 c np - dropS fDB fCR od ow mm T T1 c j)) ∧
  (∀ m, m ≠ mm → LA m = fLA m) ∧ LA mm = plI l ∧ j ≤ l ∧ l ≤ np ∧ T1 ≤ preS (dbN fDB) ow od mm l
theorem dropS_succ (fDB fCR : Nat → Int32) (od : Nat → Nat) (ow : Nat → Int) (mm : Nat) (T T1 : Int) (c j : Nat) : dropS fDB fCR od ow mm T T1 c (j + 1) = dropS fDB fCR od ow mm T T1 c j + (if dbN fDB (od j) = mm ∧ dbN fCR (od j) = c then fillP (dbN fDB) ow od mm T j - fillP (dbN fDB) ow od mm T1 j else 0) := rfl
section PL
variable {np nm mm : Nat} {fDB fCR : Nat → Int32} {od : Nat → Nat} {ow : Nat → Int} {T T1 : Int} {fPD fLO fLA : Nat → Int32}
theorem drop_term (C : PLc np nm mm fDB fCR od ow T T1) (c i : Nat) : 0 ≤ (if dbN fDB (od i) = mm ∧ dbN fCR (od i) = c then fillP (dbN fDB) ow od mm T i - fillP (dbN fDB) ow od mm T1 i else 0) := by
  obtain ⟨_, _, _, _, _, _, _, hw, h0, h1⟩ := C
  split
  · have := fillP_mono (db := dbN fDB) (od := od) (fun k => (hw k).1) mm (Int.le_of_lt h1) i
    omega
  · exact Int.le_refl _
theorem drop_term_le (C : PLc np nm mm fDB fCR od ow T T1) (c i : Nat) : (if dbN fDB (od i) = mm ∧ dbN fCR (od i) = c then fillP (dbN fDB) ow od mm T i - fillP (dbN fDB) ow od mm T1 i else 0) ≤ 999 := by
  obtain ⟨_, _, _, _, _, _, _, hw, h0, h1⟩ := C
  split
  · have e1 := fillP_le (db := dbN fDB) (od := od) (fun k => (hw k).1) mm T i
    have e2 := fillP_nonneg (db := dbN fDB) (od := od) (fun k => (hw k).1) mm T1 i
    have e3 := (hw (od i)).2
    omega
  · omega
theorem drop_mono (C : PLc np nm mm fDB fCR od ow T T1) (c : Nat) {a b : Nat} (h : a ≤ b) : dropS fDB fCR od ow mm T T1 c a ≤ dropS fDB fCR od ow mm T T1 c b := sI_mono (drop_term C c) h
theorem drop_le (C : PLc np nm mm fDB fCR od ow T T1) (c : Nat) {b : Nat} (h : b ≤ np) : 0 ≤ dropS fDB fCR od ow mm T T1 c b ∧ dropS fDB fCR od ow mm T T1 c b ≤ 39960 := by
  have h1 := drop_mono C c (Nat.zero_le b)
  have h2 : dropS fDB fCR od ow mm T T1 c b ≤ b * 999 := sI_bound (fun k _ => drop_term_le C c k)
  have h3 : dropS fDB fCR od ow mm T T1 c 0 = 0 := rfl
  have h4 := C.1
  constructor <;> omega
theorem PL_entry (C : PLc np nm mm fDB fCR od ow T T1) {la : Nat} {b : Int32} (hpd : ∀ i, i < np → dbN fDB (od i) = mm → (fPD (od i)).toInt = fillP (dbN fDB) ow od mm T i) (hb : b.toInt = T - T1) (hla : fLA mm = plI la) (hl1 : la ≤ np) (hl2 : T ≤ preS (dbN fDB) ow od mm la) :
    PLinv np nm mm fDB fCR od ow T T1 fPD fLO fLA la b fPD fLO fLA la := by
  have hw := C.2.2.2.2.2.2.2.1
  have ht := C.2.2.2.2.2.2.2.2
  have hz : ∀ i, la ≤ i → fillP (dbN fDB) ow od mm T i = 0 ∧ fillP (dbN fDB) ow od mm T1 i = 0 := by
    intro i hi
    have h1 := preS_mono (db := dbN fDB) (od := od) (fun k => (hw k).1) mm hi
    have h2 := preS_mono (db := dbN fDB) (od := od) (fun k => (hw k).1) mm (show i ≤ i + 1 by omega)
    unfold fillP
    constructor <;> omega
  refine ⟨hl1, fun i hi hm => ?_, fun _ _ _ => rfl, by omega, fun c hc => ?_, fun _ _ => rfl, hla, Nat.le_refl _, hl1, by omega⟩
  · rw [hpd i hi hm]
    split
    · rename_i h
      rw [(hz i h).1, (hz i h).2]
    · rfl
  · have e : ∀ b, la ≤ b → dropS fDB fCR od ow mm T T1 c b = dropS fDB fCR od ow mm T T1 c la := by
      intro b hb
      induction b with
      | zero => have e0 : la = 0 := by omega
                subst e0; rfl
      | succ b ih =>
        rcases Nat.lt_or_ge la (b + 1) with q | q
        · have h1 := ih (by omega)
          have h2 := hz b (by omega)
          rw [dropS_succ, h1, h2.1, h2.2]
          simp
        · have e0 : la = b + 1 := by omega
          rw [e0]
    rw [e np hl1]; omega
theorem PL_other (C : PLc np nm mm fDB fCR od ow T T1) {j : Nat} {op : Int32} {PD LO LA : Nat → Int32} {l : Nat} (I : PLinv np nm mm fDB fCR od ow T T1 fPD fLO fLA (j + 1) op PD LO LA l) (h : ¬ dbN fDB (od j) = mm) (hop : 0 < op) :
    PLinv np nm mm fDB fCR od ow T T1 fPD fLO fLA j op PD LO (upd LA mm (nI j)) (j + 1) := by
  obtain ⟨a0, a1, a2, a3, a4, a5, a6, a7, a8, a9⟩ := I
  have ht := C.2.2.2.2.2.2.2.2
  have e : preS (dbN fDB) ow od mm (j + 1) = preS (dbN fDB) ow od mm j := by rw [preS_succ, if_neg h]; omega
  rw [i32_lt, ti0, a3] at hop
  refine ⟨by omega, fun i hi hm => ?_, a2, by rw [a3, e], fun c hc => ?_, fun m hm => by rw [pk_un hm]; exact a5 m hm, pk_us, by omega, by omega, by omega⟩
  · rw [a1 i hi hm]
    have hne : i ≠ j := by intro q; subst q; exact h hm
    by_cases q : j ≤ i
    · rw [if_pos q, if_pos (by omega)]
    · rw [if_neg q, if_neg (by omega)]
  · rw [a4 c hc]
    have e2 : dropS fDB fCR od ow mm T T1 c (j + 1) = dropS fDB fCR od ow mm T T1 c j := by
      rw [dropS_succ, if_neg (fun q => h q.1)]; omega
    rw [e2]
theorem PL_his (C : PLc np nm mm fDB fCR od ow T T1) (hlo : ∀ c, c < nm → 0 ≤ (fLO c).toInt ∧ (fLO c).toInt ≤ 1000000) {j : Nat} {op y : Int32} {PD LO LA : Nat → Int32} {l : Nat} (I : PLinv np nm mm fDB fCR od ow T T1 fPD fLO fLA (j + 1) op PD LO LA l) (h : dbN fDB (od j) = mm) (hop : 0 < op) (hy : y = if PD (od j) < op then PD (od j) else op) :
    PLinv np nm mm fDB fCR od ow T T1 fPD fLO fLA j (op - y) (upd PD (od j) (PD (od j) - y)) (upd LO (ix (fCR (od j))) (LO (ix (fCR (od j))) + y)) (upd LA mm (nI j)) (j + 1) := by
  obtain ⟨a0, a1, a2, a3, a4, a5, a6, a7, a8, a9⟩ := I
  obtain ⟨hnp, hnm, hmm, hdb, hcr, hod, hinj, hw, ht0, ht1⟩ := id C
  have hS := preS_mono (db := dbN fDB) (od := od) (fun k => (hw k).1) mm (show j ≤ j + 1 by omega)
  have hS0 := preS_nonneg (db := dbN fDB) (od := od) (fun k => (hw k).1) mm j
  have hjn : j < np := by omega
  have hv := a1 j hjn h
  rw [if_neg (by omega)] at hv
  have hv0 := fillP_nonneg (db := dbN fDB) (od := od) (fun k => (hw k).1) mm T j
  have hv1 := fillP_le (db := dbN fDB) (od := od) (fun k => (hw k).1) mm T j
  have hv2 := hw (od j)
  have hv3 := fillP_nonneg (db := dbN fDB) (od := od) (fun k => (hw k).1) mm T1 j
  have hop2 := hop
  rw [i32_lt, ti0, a3] at hop2
  have hfT : fillP (dbN fDB) ow od mm T j = min T (preS (dbN fDB) ow od mm (j + 1)) - min T (preS (dbN fDB) ow od mm j) := rfl
  have hfT1 : fillP (dbN fDB) ow od mm T1 j = min T1 (preS (dbN fDB) ow od mm (j + 1)) - min T1 (preS (dbN fDB) ow od mm j) := rfl
  have hyv : y.toInt = fillP (dbN fDB) ow od mm T j - fillP (dbN fDB) ow od mm T1 j := by
    rw [hy]
    by_cases q : PD (od j) < op
    · rw [if_pos q, hv]
      rw [i32_lt, hv, a3] at q
      omega
    · rw [if_neg q, a3]
      rw [i32_lt, hv, a3] at q
      omega
  have hcl := ix_lt (hcr (od j) (hod j hjn))
  have ho1 := Int32.toInt_lt op
  have hob : op.toInt < 2147483648 := ho1
  refine ⟨by omega, fun i hi hm => ?_, fun k hk hm => ?_, ?_, fun c hc => ?_, fun m hm => by rw [pk_un hm]; exact a5 m hm, pk_us, by omega, by omega, by omega⟩
  · by_cases q : i = j
    · subst q
      rw [pk_us, if_pos (Nat.le_refl _), i32_sub (by omega) (by omega)]
      omega
    · have hne : od i ≠ od j := fun e => q (hinj i j hi hjn e)
      rw [pk_un hne, a1 i hi hm]
      by_cases q2 : j ≤ i
      · rw [if_pos q2, if_pos (by omega)]
      · rw [if_neg q2, if_neg (by omega)]
  · have hne : k ≠ od j := by intro e; subst e; exact hm h
    rw [pk_un hne]; exact a2 k hk hm
  · rw [i32_sub (by omega) (by omega)]; omega
  · have hd1 := drop_le C c (show j + 1 ≤ np by omega)
    have hd2 := drop_le C c (Nat.le_refl np)
    have hd3 := drop_mono C c (show j + 1 ≤ np by omega)
    have hd4 := hlo c hc
    have e2 : dropS fDB fCR od ow mm T T1 c (j + 1) = dropS fDB fCR od ow mm T T1 c j + (if dbN fDB (od j) = mm ∧ dbN fCR (od j) = c then fillP (dbN fDB) ow od mm T j - fillP (dbN fDB) ow od mm T1 j else 0) := rfl
    by_cases q : c = ix (fCR (od j))
    · subst q
      rw [if_pos ⟨h, rfl⟩] at e2
      rw [pk_us, i32_add (by have := a4 _ hc; omega) (by have := a4 _ hc; omega)]
      have := a4 _ hc
      omega
    · rw [pk_un q, a4 c hc]
      rw [if_neg (fun z => q z.2.symm)] at e2
      omega
theorem PL_exit (C : PLc np nm mm fDB fCR od ow T T1) {j : Nat} {op : Int32} {PD LO LA : Nat → Int32} {l : Nat} (I : PLinv np nm mm fDB fCR od ow T T1 fPD fLO fLA j op PD LO LA l) (h : j = 0 ∨ ¬ 0 < op) :
    (∀ i, i < np → dbN fDB (od i) = mm → (PD (od i)).toInt = fillP (dbN fDB) ow od mm T1 i) ∧ (∀ k, k < np → ¬ dbN fDB k = mm → PD k = fPD k) ∧ (∀ c, c < nm → (LO c).toInt = (fLO c).toInt + dropS fDB fCR od ow mm T T1 c np) ∧
    (∀ m, m ≠ mm → LA m = fLA m) ∧ ∃ l, LA mm = plI l ∧ l ≤ np ∧ T1 ≤ preS (dbN fDB) ow od mm l := by
  obtain ⟨a0, a1, a2, a3, a4, a5, a6, a7, a8, a9⟩ := I
  obtain ⟨hnp, hnm, hmm, hdb, hcr, hod, hinj, hw, ht0, ht1⟩ := id C
  have hS0 := preS_nonneg (db := dbN fDB) (od := od) (fun k => (hw k).1) mm j
  have hSj : j = 0 ∨ preS (dbN fDB) ow od mm j ≤ T1 := by
    rcases h with h | h
    · exact Or.inl h
    · right
      rw [i32_lt, ti0, a3] at h
      omega
  have hz : ∀ i, i < j → fillP (dbN fDB) ow od mm T i = fillP (dbN fDB) ow od mm T1 i := by
    intro i hi
    rcases hSj with q | q
    · omega
    · have h1 := preS_mono (db := dbN fDB) (od := od) (fun k => (hw k).1) mm (show i + 1 ≤ j by omega)
      have h2 := preS_mono (db := dbN fDB) (od := od) (fun k => (hw k).1) mm (show i ≤ i + 1 by omega)
      unfold fillP
      omega
  refine ⟨fun i hi hm => ?_, a2, fun c hc => ?_, a5, l, a6, a8, a9⟩
  · rw [a1 i hi hm]
    split
    · rfl
    · exact hz i (by omega)
  · rw [a4 c hc]
    have e : dropS fDB fCR od ow mm T T1 c j = 0 := by
      have : dropS fDB fCR od ow mm T T1 c j = sI (fun _ => 0) j := sI_congr (fun i hi => by
        split
        · rw [hz i hi]; omega
        · rfl)
      rw [this]
      clear this hz hSj a3 a4 a6 a7 a8 a9 h a1 hS0 a0
      induction j with
      | zero => rfl
      | succ j ih => simp only [sI]; rw [ih]; rfl
    rw [e]; omega
end PL

def cntF (f : Nat → Int32) : Nat → Int32
  | 0 => 0
  | n + 1 => cntF f n + (if f n = 0 then 0 else 1)
def tellC (PD HS FA UN : Nat → Int32) (cp cm : Nat) (x k : Int32) : Int32 :=
  if x = 0 then (if 0 ≤ k ∧ k < nI cp then PD (ix k) else -1)
  else if 0 ≤ k ∧ k < nI cm then (if x = 1 then HS (ix k) else if x = 2 then FA (ix k) else if x = 3 then UN (ix k) else -1) else -1
/-- what is due of each paper by a decree, and its rank by it -/
abbrev dueF (cu : Nat → Int32) (sp bf : Int32) (lf rk dy : Nat → Int32) : Nat → Int32 := fun k => dLeft cu sp bf (lf k) (rk k) (dy k)
abbrev rkF (mv : Nat → Int32) (bf : Int32) (rk dy : Nat → Int32) : Nat → Int32 := fun k => dRank mv bf (rk k) (dy k)
def takeS (du : Nat → Int32) (db cr : Nat → Nat) (h : Nat → Int32) : Nat → Nat → Int32
  | 0 => h
  | n + 1 => upd (upd (takeS du db cr h n) (db n) (takeS du db cr h n (db n) - du n)) (cr n) (upd (takeS du db cr h n) (db n) (takeS du db cr h n (db n) - du n) (cr n) + du n)
/-! the order of the papers: by rank, then by number -/
def rowO (rk : Nat → Int32) (r : Nat) : Nat → List Nat
  | 0 => []
  | k + 1 => if rk k = nI r then rowO rk r k ++ [k] else rowO rk r k
def ordO (rk : Nat → Int32) (n : Nat) : Nat → List Nat
  | 0 => []
  | r + 1 => ordO rk n r ++ rowO rk r n
def holdsO (OR : Nat → Int32) (L : List Nat) : Prop := ∀ (i q : Nat), L[i]? = some q → OR i = nI q
def inRk (rk : Nat → Int32) (k : Nat) : Nat → Nat
  | 0 => 0
  | r + 1 => inRk rk k r + (if rk k = nI r then 1 else 0)
theorem inRk_le (rk : Nat → Int32) (k : Nat) : ∀ r, r ≤ 4 → inRk rk k r ≤ 1 := by
  intro r hr
  have h : ∀ a b : Nat, a < 4 → b < 4 → rk k = nI a → rk k = nI b → a = b := fun a b ha hb h1 h2 => (nI_eq (by omega) (by omega)).mp (h1.symm.trans h2)
  match r, hr with
  | 0, _ => simp [inRk]
  | 1, _ => simp only [inRk]; split <;> omega
  | 2, _ =>
    simp only [inRk]
    split <;> split <;> first | omega | (rename_i h1 h2; exact absurd (h _ _ (by decide) (by decide) h1 h2) (by decide))
  | 3, _ =>
    simp only [inRk]
    split <;> split <;> split <;> first | omega | (rename_i h1 h2 h3; first | exact absurd (h _ _ (by decide) (by decide) h1 h2) (by decide) | exact absurd (h _ _ (by decide) (by decide) h1 h3) (by decide) | exact absurd (h _ _ (by decide) (by decide) h2 h3) (by decide))
  | 4, _ =>
    simp only [inRk]
    split <;> split <;> split <;> split <;> first | omega | (rename_i h1 h2 h3 h4; first | exact absurd (h _ _ (by decide) (by decide) h1 h2) (by decide) | exact absurd (h _ _ (by decide) (by decide) h1 h3) (by decide) | exact absurd (h _ _ (by decide) (by decide) h2 h3) (by decide) | exact absurd (h _ _ (by decide) (by decide) h1 h4) (by decide) | exact absurd (h _ _ (by decide) (by decide) h2 h4) (by decide) | exact absurd (h _ _ (by decide) (by decide) h3 h4) (by decide))
def sN (f : Nat → Nat) : Nat → Nat
  | 0 => 0
  | n + 1 => sN f n + f n
theorem sN_le {f : Nat → Nat} : ∀ {n : Nat}, (∀ k, k < n → f k ≤ 1) → sN f n ≤ n
  | 0, _ => Nat.le_refl _
  | n + 1, h => by have := sN_le (fun k hk => h k (by omega)) (n := n); have := h n (by omega); simp only [sN]; omega
theorem sN_add {f g : Nat → Nat} : ∀ {n : Nat}, sN (fun k => f k + g k) n = sN f n + sN g n
  | 0 => rfl
  | n + 1 => by have := sN_add (f := f) (g := g) (n := n); simp only [sN]; omega
theorem rowO_len (rk : Nat → Int32) (r : Nat) : ∀ k, (rowO rk r k).length = sN (fun k => if rk k = nI r then 1 else 0) k
  | 0 => rfl
  | k + 1 => by
    have := rowO_len rk r k
    simp only [rowO, sN]
    split <;> simp [this]
theorem ordO_eq (rk : Nat → Int32) (n : Nat) : ∀ r, (ordO rk n r).length = sN (fun k => inRk rk k r) n
  | 0 => by
    have : ∀ m, sN (fun k => inRk rk k 0) m = 0 := by
      intro m
      induction m with
      | zero => rfl
      | succ m ih => show sN (fun k => inRk rk k 0) m + inRk rk m 0 = 0; rw [ih]; rfl
    rw [this]; rfl
  | r + 1 => by
    simp only [ordO, List.length_append, ordO_eq rk n r, rowO_len]
    rw [← sN_add]; rfl
theorem ordO_len (rk : Nat → Int32) (n r : Nat) (h : r ≤ 4) : (ordO rk n r).length ≤ n := by
  rw [ordO_eq]
  exact sN_le (fun k _ => inRk_le rk k r h)
theorem rowO_mono (rk : Nat → Int32) (r : Nat) {a : Nat} : ∀ {b : Nat}, a ≤ b → ∃ M, rowO rk r b = rowO rk r a ++ M
  | 0, h => ⟨[], by have e : a = 0 := by omega
                    subst e; simp⟩
  | b + 1, h => by
    rcases Nat.lt_or_ge a (b + 1) with q | q
    · obtain ⟨M, hM⟩ := rowO_mono rk r (a := a) (b := b) (by omega)
      simp only [rowO]
      split
      · exact ⟨M ++ [b], by rw [hM, List.append_assoc]⟩
      · exact ⟨M, hM⟩
    · have e : a = b + 1 := by omega
      subst e; exact ⟨[], by simp⟩
theorem ordO_lt (rk : Nat → Int32) (n r k : Nat) (hr : r + 1 ≤ 4) (hk : k ≤ n) : (ordO rk n r ++ rowO rk r k).length ≤ n := by
  obtain ⟨M, hM⟩ := rowO_mono rk r hk
  have h := ordO_len rk n (r + 1) hr
  simp only [ordO, hM, List.length_append] at h
  simp only [List.length_append]; omega
theorem ordO_row {rk : Nat → Int32} {n r k : Nat} (hr : r + 1 ≤ 4) (hk : k ≤ n) (hn : n ≤ 40) (h : n ≤ k ∨ 40 ≤ (ordO rk n r ++ rowO rk r k).length) : ordO rk n (r + 1) = ordO rk n r ++ rowO rk r k := by
  rcases h with h | h
  · have e : k = n := by omega
    subst e; rfl
  · obtain ⟨M, hM⟩ := rowO_mono rk r hk
    have h1 := ordO_len rk n (r + 1) hr
    simp only [ordO, hM, List.length_append] at h1 h ⊢
    have e : M = [] := List.length_eq_zero_iff.mp (by omega)
    rw [e, List.append_nil]
theorem holdsO_hit {rk OR : Nat → Int32} {n r k b : Nat} (h : holdsO OR (ordO rk n r ++ rowO rk r k)) (hb : b = (ordO rk n r ++ rowO rk r k).length) (hk : rk k = nI r) : holdsO (upd OR b (nI k)) (ordO rk n r ++ rowO rk r (k + 1)) := by
  have e : ordO rk n r ++ rowO rk r (k + 1) = (ordO rk n r ++ rowO rk r k) ++ [k] := by simp only [rowO]; rw [if_pos hk, List.append_assoc]
  rw [e]
  intro i q hq
  rcases Nat.lt_or_ge i b with hi | hi
  · rw [List.getElem?_append_left (by omega)] at hq
    rw [pk_un (by omega)]; exact h i q hq
  · have hl := (List.getElem?_eq_some_iff.mp hq).1
    rw [List.length_append] at hl
    simp only [List.length_cons, List.length_nil] at hl
    have e2 : i = b := by omega
    subst e2
    rw [hb, List.getElem?_concat_length] at hq
    rw [pk_us, Option.some.inj hq]
theorem holdsO_miss {rk OR : Nat → Int32} {n r k : Nat} (h : holdsO OR (ordO rk n r ++ rowO rk r k)) (hk : ¬ rk k = nI r) : holdsO OR (ordO rk n r ++ rowO rk r (k + 1)) := by
  simp only [rowO]; rw [if_neg hk]; exact h
theorem len_hit {rk : Nat → Int32} {n r k b : Nat} (hb : b = (ordO rk n r ++ rowO rk r k).length) (hk : rk k = nI r) : b + 1 = (ordO rk n r ++ rowO rk r (k + 1)).length := by
  simp only [rowO]; rw [if_pos hk, hb]; simp; omega
theorem len_miss {rk : Nat → Int32} {n r k b : Nat} (hb : b = (ordO rk n r ++ rowO rk r k).length) (hk : ¬ rk k = nI r) : b = (ordO rk n r ++ rowO rk r (k + 1)).length := by
  simp only [rowO]; rw [if_neg hk]; exact hb
